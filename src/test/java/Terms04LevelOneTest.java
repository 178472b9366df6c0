/** "Terms": the ACTIVE PRIORITY and LEVEL 1. */
public final class Terms04LevelOneTest {
    public static void main(String[] args) {
        Script script = new Script("terms, level 1");
        activePriority(script);
        periodic(script);
        once(script);
        fromTheBeginningOfTheMission(script);
        greatestPriority(script);
        theOneThatCameFirst(script);
        script.end();
    }

    private static void activePriority(Script script) {
        script.about("The ACTIVE PRIORITY of a RELEASE is its HANDLER's PRIORITY, or the greatest CEILING of the locks that it holds, if that is greater.");
        for (int ceiling = 4; ceiling <= 6; ceiling++) {
            script.fresh("handler(0, 2, 4, 0, 1)=true step(0, 5, 1)=1 step(0, 0, 2)=2 ceiling(1, " + ceiling + ")=true"
                    + " begin(1, 0)=1 call(0)=1 of(0, 6)=4 run(1)=1 of(0, 6)=" + ceiling);
        }
        // The greatest of several, whichever was taken first.
        String locks = "handler(0, 2, 1, 0, 1)=true step(0, 5, 0)=1 step(0, 0, 1)=2 step(0, 5, 1)=3 step(0, 0, 1)=4"
                + " step(0, 6, 1)=5 step(0, 0, 1)=6 step(0, 6, 0)=7 step(0, 0, 2)=8 ";
        script.fresh(locks + "ceiling(0, 7)=true ceiling(1, 3)=true begin(1, 0)=1 call(0)=1 run(1)=1 of(0, 6)=7 run(1)=1"
                + " of(0, 6)=7 run(1)=1 of(0, 6)=7 run(1)=1 of(0, 6)=1");
        script.fresh(locks + "ceiling(0, 3)=true ceiling(1, 7)=true begin(1, 0)=1 call(0)=1 run(1)=1 of(0, 6)=3 run(1)=1"
                + " of(0, 6)=7 run(1)=1 of(0, 6)=3 run(1)=1 of(0, 6)=1");
        // Of the four locks each can be the one that lifts.
        for (int m = 0; m <= 3; m++) {
            script.fresh("handler(0, 2, 1, 0, 1)=true step(0, 5, 0) step(0, 5, 1) step(0, 5, 2) step(0, 5, 3) step(0, 0, 2)=5"
                    + " ceiling(0, 2)=true ceiling(1, 2)=true ceiling(2, 2)=true ceiling(3, 2)=true ceiling(" + m + ", 8)=true"
                    + " begin(1, 0)=1 call(0)=1 run(1)=1 of(0, 6)=8");
        }
    }

    private static void periodic(Script script) {
        script.about("LEVEL 1: PERIODIC HANDLERS get a RELEASE FIRST TICKS behind the beginning of the MISSION, and each EVERY TICKS from then on");
        script.fresh("handler(0, 0, 1, 0, 1)=true begin(1, 0)=1 of(0, 8)=0 run(1)=1 of(0, 8)=1 run(1)=1 of(0, 8)=2 run(20)=20"
                + " of(0, 8)=22");
        script.fresh("handler(0, 0, 1, 1, 1)=true begin(1, 0)=1 run(1)=1 of(0, 8)=0 run(1)=1 of(0, 8)=1 run(1)=1 of(0, 8)=2");
        script.fresh("handler(0, 0, 1, 0, 50)=true begin(1, 0)=1 run(1)=1 of(0, 8)=1 run(20)=20 run(20)=20 run(9)=9 of(0, 8)=1"
                + " run(1)=1 of(0, 8)=2");
        script.fresh("handler(0, 0, 1, 50, 1)=true begin(1, 0)=1 run(20)=20 run(20)=20 run(10)=10 of(0, 8)=0 run(1)=1"
                + " of(0, 8)=1 run(1)=1 of(0, 8)=2");
        script.fresh("handler(0, 0, 1, 3, 7)=true step(0, 0, 1)=1 begin(1, 0)=1 run(3)=3 of(0, 8)=0 run(1)=1 of(0, 8)=1"
                + " run(6)=6 of(0, 8)=1 run(1)=1 of(0, 8)=2 run(6)=6 of(0, 8)=2 run(1)=1 of(0, 8)=3");
    }

    private static void once(Script script) {
        script.about("ONCE ones just the first of these.");
        script.fresh("handler(0, 1, 1, 0, 1)=true begin(1, 0)=1 of(0, 8)=0 run(1)=1 of(0, 8)=1 run(20)=20 of(0, 8)=1");
        script.fresh("handler(0, 1, 1, 50, 1)=true begin(1, 0)=1 run(20)=20 run(20)=20 run(10)=10 of(0, 8)=0 run(1)=1"
                + " of(0, 8)=1 run(20)=20 of(0, 8)=1");
        // In each MISSION once.
        script.fresh("handler(0, 1, 1, 2, 1)=true begin(1, 0)=1 run(9)=9 of(0, 8)=1 stop()=true begin(1, 0)=2 run(2)=2"
                + " of(0, 8)=1 run(1)=1 of(0, 8)=2 run(9)=9 of(0, 8)=2");
    }

    private static void fromTheBeginningOfTheMission(Script script) {
        script.about("LEVEL 1: PERIODIC HANDLERS get a RELEASE FIRST TICKS behind the beginning of the MISSION");
        script.fresh("handler(0, 0, 1, 2, 5)=true begin(1, 0)=1 run(4)=4 of(0, 8)=1 stop()=true desk(1)=4 begin(1, 0)=2 run(2)=2"
                + " of(0, 8)=1 run(1)=1 of(0, 8)=2 run(4)=4 of(0, 8)=2 run(1)=1 of(0, 8)=3 stop()=true begin(1, 0)=3 run(3)=3"
                + " of(0, 8)=4");
    }

    private static void greatestPriority(Script script) {
        script.about("Of the READY ones that with the greatest ACTIVE PRIORITY is chosen");
        for (int low = 0; low <= 1; low++) {
            int high = 1 - low;
            script.fresh("handler(" + low + ", 2, 1, 0, 1)=true step(" + low + ", 0, 2)=1 handler(" + high + ", 2, 2, 0, 1)=true"
                    + " step(" + high + ", 0, 2)=1 begin(1, 0)=1 call(" + low + ")=1 desk(4)=" + low + " run(1)=1"
                    + " call(" + high + ")=1 desk(4)=" + high + " run(2)=2 of(" + high + ", 9)=1 desk(4)=" + low
                    + " of(" + low + ", 5)=1");
        }
        // A lock lifts over one of a greater PRIORITY, not over one as great as its CEILING that came first.
        String lifted = "handler(0, 2, 1, 0, 1)=true step(0, 5, 0)=1 step(0, 0, 3)=2 handler(1, 2, 4, 0, 1)=true step(1, 0, 1)=1 ";
        script.fresh(lifted + "ceiling(0, 3)=true begin(1, 0)=1 call(0)=1 run(1)=1 call(1)=1 desk(4)=1");
        script.fresh(lifted + "ceiling(0, 5)=true begin(1, 0)=1 call(0)=1 run(1)=1 call(1)=1 desk(4)=0");
        script.fresh(lifted + "ceiling(0, 4)=true begin(1, 0)=1 call(0)=1 run(1)=1 call(1)=1 desk(4)=0");
    }

    private static void theOneThatCameFirst(Script script) {
        script.about("of several the one that came first.");
        script.fresh("handler(0, 2, 3, 0, 1)=true step(0, 0, 1)=1 handler(7, 2, 3, 0, 1)=true step(7, 0, 1)=1"
                + " begin(1, 0)=1 call(7)=1 call(0)=1 desk(4)=7 run(1)=1 desk(4)=0 call(7)=1 desk(4)=0 run(1)=1 desk(4)=7");
        script.about("(of several HANDLERS by their numbers in LEVEL 1)");
        script.fresh("handler(7, 0, 3, 0, 9)=true step(7, 0, 1)=1 handler(3, 1, 3, 0, 9)=true step(3, 0, 1)=1"
                + " handler(5, 0, 3, 0, 9)=true step(5, 0, 1)=1 begin(1, 0)=1 run(1)=1 event(4)=11 event(3)=13 event(2)=15"
                + " event(1)=19 event(0)=27 desk(4)=5 run(1)=1 desk(4)=7");
        // One that was called before the TICK came before those that come in it.
        script.fresh("handler(0, 0, 3, 0, 9)=true step(0, 0, 1)=1 handler(1, 2, 3, 0, 9)=true step(1, 0, 1)=1 begin(1, 0)=1"
                + " call(1)=1 run(1)=1 of(1, 9)=1 of(0, 9)=0");
    }
}
