/** The first paragraphs of "Terms": the desk, HANDLERS and their numbers, the STEPS, the LOCKS. */
public final class Terms01LaidDownTest {
    public static void main(String[] args) {
        Script script = new Script("terms, laid down");
        timeAndPhases(script);
        whatIsLaidDownStays(script);
        handlersThereOrNot(script);
        kinds(script);
        bodyOfTenSteps(script);
        work(script);
        objects(script);
        enterAndLeave(script);
        locksByNumber(script);
        callsByNumber(script);
        stopLooksAtNothing(script);
        script.end();
    }

    private static void timeAndPhases(Script script) {
        script.about("TIME is counted in TICKS, 0 at first.");
        script.fresh("desk(1)=0 begin(1, 0)=1 desk(1)=0 run(1)=1 desk(1)=1 stop()=true desk(1)=1"
                + " begin(1, 0)=2 desk(1)=1 run(20)=20 desk(1)=21");
        script.about("The desk is in SETUP, RUNS or is ENDING a MISSION.");
        script.fresh("handler(0, 2, 1, 0, 1)=true step(0, 0, 2)=1 desk(0)=0 begin(1, 0)=1 desk(0)=1 call(0)=1"
                + " run(1)=1 desk(0)=1 stop()=true desk(0)=2 run(1)=1 desk(0)=0");
    }

    private static void whatIsLaidDownStays(Script script) {
        script.about("What is laid down in SETUP stays for all MISSIONS.");
        script.fresh("handler(0, 0, 3, 1, 4)=true limit(0, 1, 1, 7)=true step(0, 5, 2)=1 step(0, 0, 2)=2"
                + " handler(1, 2, 1, 0, 1)=true ceiling(2, 6)=true frame(1, 5)=true place(1, 1)=1");
        for (int mission = 1; mission <= 3; mission++) {
            script.then("begin(1, 0)=" + (2 * mission - 1) + " run(2)=2 of(0, 6)=6 memory(0, 1)=7 memory(0, 4)=2"
                    + " run(3)=3 of(0, 10)=" + (2 * mission - 1) + " run(1)=1 of(0, 3)=1 stop()=true run(5)=1"
                    + " begin(0, 0)=" + 2 * mission + " run(6)=6 desk(9)=1 desk(10)=2 stop()=true"
                    + " of(1, 9)=" + 3 * mission + " of(0, 2)=2 of(0, 1)=3 of(0, 0)=0");
        }
    }

    private static void handlersThereOrNot(Script script) {
        script.about("HANDLERS 0 to 7 are there or not.");
        for (int h = 0; h <= 7; h++) {
            script.fresh("handler(" + h + ", 2, 4, 0, 1)=true");
            for (int other = -1; other <= 8; other++) {
                script.then("of(" + other + ", 1)=" + (other == h ? "4" : "REFUSED"));
            }
            script.then("begin(1, 0)=1 call(" + h + ")=1 desk(4)=" + h + " run(1)=1 event(0)=" + (24 + h));
        }
        script.fresh("handler(-1, 2, 4, 0, 1)=false handler(8, 2, 4, 0, 1)=false");
    }

    private static void kinds(Script script) {
        script.about("One has a KIND (0 PERIODIC, 1 ONCE, 2 CALLED)");
        script.fresh("handler(0, 0, 1, 0, 2)=true handler(1, 1, 1, 0, 2)=true handler(2, 2, 1, 0, 2)=true"
                + " handler(3, 3, 1, 0, 2)=false handler(3, -1, 1, 0, 2)=false"
                + " begin(1, 0)=1 run(5)=5 of(0, 8)=3 of(1, 8)=1 of(2, 8)=0 call(0)=REFUSED call(1)=REFUSED call(2)=1");
    }

    private static void bodyOfTenSteps(Script script) {
        script.about("a BODY of at most 10 STEPS (op, a), numbered from 0");
        script.fresh("handler(0, 2, 1, 0, 1)=true");
        for (int n = 1; n <= 10; n++) {
            script.then("step(0, 0, 1)=" + n);
        }
        script.then("step(0, 0, 1)=FULL of(0, 2)=10 begin(1, 0)=1 call(0)=1");
        for (int n = 0; n < 10; n++) {
            script.then("of(0, 4)=" + n + " run(1)=1");
        }
        script.then("of(0, 4)=NONE of(0, 9)=1 of(0, 15)=10");
    }

    private static void work(Script script) {
        script.about("0 WORK a (1 to 20): a TICKS of work.");
        for (int a = 1; a <= 20; a++) {
            script.fresh("handler(0, 2, 1, 0, 1)=true step(0, 0, " + a + ")=1 begin(1, 0)=1 call(0)=1");
            for (int done = 0; done < a; done++) {
                script.then("of(0, 5)=" + done + " of(0, 9)=0 run(1)=1 of(0, 15)=" + (done + 1));
            }
            script.then("of(0, 9)=1 run(1)=1 of(0, 15)=" + a + " desk(13)=1");
        }
        refusedSteps(script, 0, 0, 21);
    }

    private static void objects(Script script) {
        script.about("1 NEW a (1 to 20): an OBJECT of size a in the CURRENT AREA.");
        script.fresh("handler(0, 2, 1, 0, 1)=true limit(0, 0, -1, 21)=true step(0, 1, 20)=1 step(0, 0, 1)=2"
                + " step(0, 1, 1)=3 step(0, 0, 2)=4 begin(1, 9)=1 call(0)=1 run(1)=1 memory(0, 1)=1 memory(0, 5)=20"
                + " run(1)=1 memory(0, 1)=0 memory(0, 5)=1 memory(0, 2)=2 desk(5)=0 desk(6)=9");
        refusedSteps(script, 1, 0, 21);
        script.about("2 KEEP a (1 to 20): an OBJECT of size a in the AREA of the MISSION.");
        script.fresh("handler(0, 2, 1, 0, 1)=true limit(0, 0, -1, 0)=true step(0, 2, 20)=1 step(0, 0, 1)=2"
                + " step(0, 2, 1)=3 step(0, 0, 2)=4 begin(1, 21)=1 call(0)=1 run(1)=1 desk(6)=1 memory(0, 5)=20"
                + " run(1)=1 desk(6)=0 memory(0, 5)=1 desk(5)=2 memory(0, 2)=0 memory(0, 1)=0");
        refusedSteps(script, 2, 0, 21);
    }

    private static void enterAndLeave(Script script) {
        script.about("3 ENTER a (1 to 30): a new AREA with room a, inside the CURRENT one and taking a of its room, is CURRENT.");
        script.fresh("handler(0, 2, 1, 0, 1)=true limit(0, 0, -1, 31)=true step(0, 3, 30)=1 step(0, 0, 1)=2"
                + " step(0, 4, 0)=3 step(0, 3, 1)=4 step(0, 0, 1)=5 step(0, 4, 0)=6 step(0, 0, 2)=7 begin(1, 0)=1"
                + " call(0)=1 run(1)=1 memory(0, 0)=2 memory(0, 1)=30 run(1)=1 memory(0, 0)=2 memory(0, 1)=1"
                + " run(1)=1 memory(0, 0)=1 memory(0, 1)=31");
        // ENTER took its room: as much again is one too many for what is left around.
        script.fresh("handler(0, 2, 1, 0, 1)=true step(0, 3, 11)=1 step(0, 4, 0)=2 step(0, 1, 9)=3 step(0, 3, 11)=4"
                + " step(0, 0, 1)=5 begin(1, 0)=1 call(0)=1 run(1)=1 of(0, 9)=1");
        script.fresh("handler(0, 2, 1, 0, 1)=true step(0, 3, 11)=1 step(0, 4, 0)=2 step(0, 1, 10)=3 step(0, 3, 11)=4"
                + " step(0, 0, 1)=5 begin(1, 0)=1 call(0)=1 run(1)=1 of(0, 12)=1");
        refusedSteps(script, 3, 0, 31);
        script.about("4 LEAVE: the CURRENT AREA is gone with its OBJECTS, the one around it is CURRENT again and has the room back that it took.");
        script.fresh("handler(0, 2, 1, 0, 1)=true step(0, 1, 2)=1 step(0, 3, 18)=2 step(0, 1, 18)=3 step(0, 0, 1)=4"
                + " step(0, 4, 0)=5 step(0, 0, 1)=6 step(0, 1, 18)=7 step(0, 0, 2)=8 begin(1, 0)=1 call(0)=1"
                + " run(1)=1 memory(0, 0)=2 memory(0, 1)=0 memory(0, 2)=2 run(1)=1 memory(0, 0)=1 memory(0, 1)=18"
                + " memory(0, 2)=1 memory(0, 5)=2 run(1)=1 memory(0, 1)=0 memory(0, 2)=2 desk(8)=3");
        script.fresh("handler(0, 2, 1, 0, 1)=true step(0, 4, MIN)=1 step(0, 4, MAX)=2 step(0, 4, -1)=3");
    }

    private static void locksByNumber(Script script) {
        script.about("5 LOCK a (0 to 3): the RELEASE holds lock a.   6 UNLOCK a (0 to 3): it holds it no more.");
        for (int m = 0; m <= 3; m++) {
            script.fresh("handler(0, 2, 1, 0, 1)=true step(0, 5, " + m + ")=1 step(0, 0, 1)=2 step(0, 6, " + m + ")=3"
                    + " step(0, 0, 2)=4 begin(1, 0)=1 call(0)=1 run(1)=1 memory(0, 3)=1 memory(0, 4)=" + m
                    + " run(1)=1 memory(0, 3)=0 memory(0, 4)=NONE");
        }
        refusedSteps(script, 5, -1, 4);
        refusedSteps(script, 6, -1, 4);
        script.about("LOCKS 0 to 3 have a CEILING each (1 to 9; 9 at first).");
        for (int m = 0; m <= 3; m++) {
            String lockAndWork = "handler(0, 2, 1, 0, 1)=true step(0, 5, " + m + ")=1 step(0, 0, 2)=2 ";
            script.fresh(lockAndWork + "begin(1, 0)=1 call(0)=1 run(1)=1 of(0, 6)=9");
            for (int ceiling = 1; ceiling <= 9; ceiling++) {
                script.fresh(lockAndWork + "ceiling(" + m + ", " + ceiling + ")=true begin(1, 0)=1 call(0)=1 run(1)=1"
                        + " of(0, 6)=" + ceiling);
                script.fresh(lockAndWork + "ceiling(" + (m + 1 & 3) + ", " + ceiling + ")=true begin(1, 0)=1 call(0)=1"
                        + " run(1)=1 of(0, 6)=9");
            }
        }
    }

    private static void callsByNumber(Script script) {
        script.about("7 CALL a (0 to 7): HANDLER a is CALLED.");
        for (int a = 0; a <= 7; a++) {
            int caller = a == 0 ? 7 : 0;
            script.fresh("handler(" + caller + ", 2, 9, 0, 1)=true step(" + caller + ", 7, " + a + ")=1"
                    + " step(" + caller + ", 0, 2)=2 handler(" + a + ", 2, 1, 0, 1)=true begin(1, 0)=1"
                    + " call(" + caller + ")=1 run(1)=1 of(" + a + ", 8)=1 of(" + a + ", 3)=1 event(0)=" + (8 + a));
        }
        refusedSteps(script, 7, -1, 8);
    }

    private static void stopLooksAtNothing(Script script) {
        script.about("8 STOP: the MISSION is told to end (a is not looked at).");
        for (String a : new String[] {"MIN", "-1", "0", "1", "20", "MAX"}) {
            script.fresh("handler(0, 2, 1, 0, 1)=true step(0, 8, " + a + ")=1 begin(1, 0)=1 call(0)=1 run(9)=1 desk(0)=0");
        }
        refusedSteps(script, 9, -1, 2);
        script.about("op (0 to 9)");
        script.fresh("handler(0, 2, 1, 0, 1)=true step(0, -1, 1)=REFUSED step(0, 10, 1)=REFUSED of(0, 2)=0");
    }

    /** Just outside on both sides, and far outside. */
    private static void refusedSteps(Script script, int op, int tooSmall, int tooLarge) {
        script.fresh("handler(0, 2, 1, 0, 1)=true");
        for (String a : new String[] {"MIN", "" + tooSmall, "" + tooLarge, "MAX"}) {
            script.then("step(0, " + op + ", " + a + ")=REFUSED of(0, 2)=0");
        }
        script.then("step(0, " + op + ", " + (tooSmall + 1) + ")=1 step(0, " + op + ", " + (tooLarge - 1) + ")=2");
    }
}
