/** "Terms": LEVEL 0, its FRAMES and their OVERRUNS. */
public final class Terms05LevelZeroTest {
    public static void main(String[] args) {
        Script script = new Script("terms, level 0");
        framesThereOrNot(script);
        places(script);
        turns(script);
        theFirstOne(script);
        toBeginThen(script);
        notDoneThen(script);
        anotherBegins(script);
        timesStay(script);
        theEventComesBefore(script);
        handlersOfAFrame(script);
        theOneThatCameFirst(script);
        endingBeginsNone(script);
        script.end();
    }

    private static void framesThereOrNot(Script script) {
        script.about("LEVEL 0: there are FRAMES 0 to 3, which are there or not");
        for (int f = 0; f <= 3; f++) {
            script.fresh("begin(0, 0)=NONE frame(" + f + ", 1)=true begin(0, 0)=1 run(1)=1 desk(9)=" + f + " run(3)=3"
                    + " desk(9)=" + f + " desk(10)=4 stop()=true frame(" + f + ", 0)=true begin(0, 0)=NONE");
        }
        script.fresh("frame(-1, 1)=false frame(4, 1)=false begin(0, 0)=NONE");
    }

    private static void places(Script script) {
        script.about("each with a number of TICKS and at most 4 places for HANDLERS.");
        script.fresh("handler(0, 2, 1, 0, 1)=true frame(0, 1)=true begin(0, 0)=1 run(1)=1 of(0, 8)=0");
        for (int taken = 1; taken <= 5; taken++) {
            script.fresh("handler(0, 2, 1, 0, 1)=true frame(0, 30)=true");
            for (int p = 1; p <= taken; p++) {
                script.then("place(0, 0)=" + (p <= 4 ? "" + p : "FULL"));
            }
            script.then("begin(0, 0)=1 run(1)=1 of(0, 8)=" + Math.min(4, taken) + " of(0, 11)=0");
        }
    }

    private static void turns(Script script) {
        script.about("They take turns by their numbers, again and again.");
        script.fresh("frame(3, 1)=true frame(2, 1)=true frame(1, 1)=true frame(0, 1)=true begin(0, 0)=1");
        for (int n = 0; n < 9; n++) {
            script.then("run(1)=1 desk(9)=" + (n & 3) + " desk(10)=" + (n + 1));
        }
        // Those that are not there are passed over, round the end too.
        for (int one = 0; one <= 3; one++) {
            for (int other = one + 1; other <= 3; other++) {
                script.fresh("frame(" + one + ", 1)=true frame(" + other + ", 1)=true begin(0, 0)=1 run(1)=1 desk(9)=" + one
                        + " run(1)=1 desk(9)=" + other + " run(1)=1 desk(9)=" + one + " run(1)=1 desk(9)=" + other);
            }
        }
        // A new MISSION begins with the first one again.
        script.fresh("frame(1, 1)=true frame(2, 1)=true frame(3, 1)=true begin(0, 0)=1 run(2)=2 desk(9)=2 stop()=true"
                + " begin(0, 0)=2 desk(9)=NONE run(1)=1 desk(9)=1");
    }

    private static void theFirstOne(Script script) {
        script.about("The first one begins with the MISSION");
        script.fresh("frame(2, 30)=true begin(0, 0)=1 desk(9)=NONE desk(10)=0 run(1)=1 desk(9)=2 desk(10)=1 desk(11)=0");
        script.fresh("frame(2, 30)=true begin(1, 0)=1 run(7)=7 stop()=true begin(0, 0)=2 run(1)=1 desk(9)=2 desk(10)=1"
                + " desk(11)=0");
    }

    private static void toBeginThen(Script script) {
        script.about("the next one is to begin as many TICKS after the time at which the one before it was to begin as that one has");
        script.fresh("frame(0, 1)=true frame(1, 30)=true frame(3, 2)=true begin(0, 0)=1 run(1)=1 desk(9)=0 run(1)=1 desk(9)=1"
                + " run(20)=20 run(9)=9 desk(9)=1 desk(10)=2 run(1)=1 desk(9)=3 run(1)=1 desk(9)=3 run(1)=1 desk(9)=0 run(1)=1"
                + " desk(9)=1 desk(11)=0");
    }

    private static void notDoneThen(Script script) {
        script.about("it begins then, or, if a RELEASE is not done then, or another FRAME begins in that TICK, at the first TICK behind it at whose beginning all are done and no other one begins, which is an OVERRUN");
        String frame = "handler(0, 2, 1, 0, 1)=true frame(0, 3)=true place(0, 0)=1 frame(1, 9)=true ";
        // Done in the last TICK of the FRAME: the next one begins in time.
        script.fresh(frame + "step(0, 0, 3)=1 begin(0, 0)=1 run(3)=3 desk(9)=0 run(1)=1 desk(9)=1 desk(11)=0");
        script.fresh(frame + "step(0, 0, 4)=1 begin(0, 0)=1 run(4)=4 desk(9)=0 desk(11)=0 run(1)=1 desk(9)=1 desk(11)=1");
        script.fresh(frame + "step(0, 0, 20)=1 begin(0, 0)=1 run(20)=20 desk(9)=0 desk(11)=0 run(1)=1 desk(9)=1 desk(11)=1");
        // Without WORK: what is left in the TICK is done in it, but not at its beginning.
        script.fresh(frame + "step(0, 0, 3)=1 step(0, 1, 1)=2 begin(0, 0)=1 run(4)=4 of(0, 9)=1 desk(9)=0 desk(11)=0 run(1)=1"
                + " desk(9)=1 desk(11)=1");
        // A RELEASE that was called from outside, before the TICK, holds it up as well.
        script.fresh(frame + "begin(0, 0)=1 run(3)=3 call(0)=1 run(1)=1 of(0, 9)=2 desk(9)=0 run(1)=1 desk(9)=1 desk(11)=1");
        // Each late FRAME is one OVERRUN, however late.
        script.fresh("handler(0, 2, 1, 0, 1)=true step(0, 0, 2)=1 frame(0, 1)=true place(0, 0)=1 begin(0, 0)=1 run(2)=2"
                + " desk(11)=0 run(1)=1 desk(11)=1 run(2)=2 desk(11)=2 run(2)=2 desk(11)=3 desk(10)=4");
    }

    private static void anotherBegins(Script script) {
        script.about("or another FRAME begins in that TICK");
        // Frame 1 is to begin at 1 and frame 2 at 2; at 2 frame 1 begins, so that frame 2 begins at 3, an OVERRUN too.
        script.fresh("handler(0, 2, 1, 0, 1)=true step(0, 0, 2)=1 frame(0, 1)=true place(0, 0)=1 frame(1, 1)=true"
                + " frame(2, 9)=true begin(0, 0)=1 run(2)=2 desk(9)=0 desk(11)=0 run(1)=1 desk(9)=1 desk(10)=2 desk(11)=1"
                + " run(1)=1 desk(9)=2 desk(10)=3 desk(11)=2 event(0)=56 event(1)=56");
        // Several wait: one begins in each TICK.
        script.fresh("handler(0, 2, 1, 0, 1)=true step(0, 0, 5)=1 frame(0, 1)=true place(0, 0)=1 frame(1, 1)=true"
                + " frame(2, 1)=true frame(3, 9)=true begin(0, 0)=1 run(5)=5 desk(10)=1 run(1)=1 desk(9)=1 run(1)=1 desk(9)=2"
                + " run(1)=1 desk(9)=3 desk(10)=4 desk(11)=3 run(1)=1 desk(10)=4");
    }

    private static void timesStay(Script script) {
        script.about("(the times at which later ones are to begin stay as they are");
        // Frame 1 is late by 2; frame 2 begins at 6 all the same, which is no OVERRUN.
        script.fresh("handler(0, 2, 1, 0, 1)=true step(0, 0, 4)=1 frame(0, 2)=true place(0, 0)=1 frame(1, 4)=true"
                + " frame(2, 9)=true begin(0, 0)=1 run(4)=4 desk(9)=0 run(1)=1 desk(9)=1 desk(11)=1 run(1)=1 desk(9)=1 run(1)=1"
                + " desk(9)=2 desk(11)=1");
    }

    private static void theEventComesBefore(Script script) {
        script.about("the EVENT comes before those of its RELEASES)");
        script.fresh("handler(0, 2, 1, 0, 1)=true step(0, 0, 2)=1 handler(3, 2, 1, 0, 1)=true frame(0, 1)=true place(0, 0)=1"
                + " frame(1, 9)=true place(1, 3)=1 place(1, 0)=2 begin(0, 0)=1 run(3)=3 event(6)=24 event(5)=56 event(4)=11"
                + " event(3)=8 event(2)=19 event(1)=27 event(0)=16");
    }

    private static void handlersOfAFrame(Script script) {
        script.about("When one begins, its HANDLERS that are there get a RELEASE each, in the order of its places, whatever their KIND (one may be there twice).");
        script.fresh("handler(6, 0, 1, 50, 50)=true handler(1, 1, 9, 50, 50)=true handler(3, 2, 5, 0, 1)=true step(6, 0, 1)=1"
                + " frame(0, 30)=true place(0, 6)=1 place(0, 1)=2 place(0, 3)=3 place(0, 6)=4 begin(0, 0)=1 run(1)=1"
                + " event(5)=14 event(4)=9 event(3)=11 event(2)=14 event(1)=22 event(0)=30 of(6, 8)=2 of(1, 8)=1 of(3, 8)=1");
        script.fresh("handler(1, 1, 9, 50, 50)=true frame(0, 30)=true place(0, 0)=1 place(0, 1)=2 place(0, 7)=3 begin(0, 0)=1"
                + " run(1)=1 of(1, 8)=1 event(2)=9 event(3)=NONE");
        // None of them is there.
        script.fresh("frame(0, 2)=true place(0, 0)=1 place(0, 7)=2 begin(0, 0)=1 run(3)=3 desk(10)=2 desk(11)=0 event(0)=NONE");
    }

    private static void theOneThatCameFirst(Script script) {
        script.about("Of the READY ones the one that came first is chosen.");
        script.fresh("ceiling(0, 9)=true handler(0, 2, 1, 0, 1)=true step(0, 0, 1)=1 handler(7, 2, 9, 0, 1)=true step(7, 5, 0)=1"
                + " step(7, 0, 1)=2 frame(0, 30)=true place(0, 0)=1 place(0, 7)=2 place(0, 0)=3 begin(0, 0)=1 run(1)=1 of(0, 9)=1"
                + " desk(4)=7 run(1)=1 of(7, 9)=1 desk(4)=0 call(7)=1 desk(4)=0");
    }

    private static void endingBeginsNone(Script script) {
        script.about("A TICK: first, if the desk RUNS, RELEASES come by LEVEL 1 or 0");
        script.fresh("handler(0, 2, 1, 0, 1)=true step(0, 0, 2)=1 step(0, 8, 0)=2 step(0, 0, 3)=3 frame(0, 1)=true place(0, 0)=1"
                + " begin(0, 0)=1 run(20)=5 desk(11)=0 of(0, 8)=1 desk(0)=0");
    }
}
