/** "Terms": RELEASES, their AREAS, what is done and what is DROPPED, and what is CALLED. */
public final class Terms02ReleasesTest {
    public static void main(String[] args) {
        Script script = new Script("terms, releases");
        theFifthIsDropped(script);
        droppedByTime(script);
        droppedByFrame(script);
        droppedByStepAndMiss(script);
        inTheOrderInWhichTheyCame(script);
        onlyTheFirstIsReady(script);
        begun(script);
        done(script);
        nothingStaysBehind(script);
        called(script);
        script.end();
    }

    private static void theFifthIsDropped(Script script) {
        script.about("A HANDLER has at most 4 RELEASES that are not done; a fifth one is DROPPED.");
        script.fresh("handler(0, 2, 1, 0, 1)=true step(0, 0, 1)=1 begin(1, 0)=1 call(0)=1 call(0)=2 call(0)=3"
                + " of(0, 11)=0 call(0)=4 of(0, 11)=0 of(0, 8)=4 call(0)=FULL of(0, 11)=1 of(0, 8)=4 of(0, 3)=4 desk(3)=4");
        // One done makes room for one, again and again: the line goes round.
        for (int n = 1; n <= 9; n++) {
            script.then("run(1)=1 of(0, 9)=" + n + " of(0, 3)=3 call(0)=4 call(0)=FULL of(0, 11)=" + (n + 1));
        }
        script.then("run(4)=4 of(0, 3)=0 of(0, 9)=13 of(0, 8)=13");
        // Four for each handler, whatever the others have.
        script.fresh("");
        for (int h = 0; h < 8; h++) {
            script.then("handler(" + h + ", 2, 1, 0, 1)=true step(" + h + ", 0, 1)=1");
        }
        script.then("begin(1, 0)=1");
        for (int h = 0; h < 8; h++) {
            script.then("call(" + h + ")=1 call(" + h + ")=2 call(" + h + ")=3 call(" + h + ")=4 call(" + h + ")=FULL"
                    + " desk(3)=" + 4 * (h + 1));
        }
        script.then("run(20)=20 desk(3)=12 run(12)=12 desk(3)=0 desk(13)=0 run(1)=1 desk(13)=1");
    }

    private static void droppedByTime(Script script) {
        script.about("A HANDLER has at most 4 RELEASES that are not done; a fifth one is DROPPED.");
        script.fresh("handler(0, 0, 1, 0, 1)=true step(0, 0, 20)=1 begin(1, 0)=1 run(4)=4 of(0, 3)=4 of(0, 11)=0"
                + " run(1)=1 of(0, 3)=4 of(0, 8)=4 of(0, 11)=1 event(0)=48");
    }

    private static void droppedByFrame(Script script) {
        script.about("A HANDLER has at most 4 RELEASES that are not done; a fifth one is DROPPED.");
        script.fresh("handler(0, 2, 1, 0, 1)=true step(0, 0, 2)=1 frame(0, 9)=true place(0, 0)=1 place(0, 0)=2"
                + " place(0, 0)=3 place(0, 0)=4 begin(0, 0)=1 run(1)=1 of(0, 3)=4 of(0, 8)=4 of(0, 11)=0"
                + " call(0)=FULL of(0, 11)=1 run(7)=7 of(0, 9)=4 of(0, 3)=0");
    }

    private static void droppedByStepAndMiss(Script script) {
        script.about("A HANDLER has at most 4 RELEASES that are not done; a fifth one is DROPPED.");
        // The STEP that calls is done all the same.
        script.fresh("handler(0, 2, 9, 0, 1)=true step(0, 7, 1)=1 step(0, 7, 1)=2 step(0, 0, 1)=3"
                + " handler(1, 2, 1, 0, 1)=true step(1, 0, 1)=1 begin(1, 0)=1 call(1)=1 call(1)=2 call(1)=3 call(0)=1"
                + " run(1)=1 of(1, 3)=4 of(1, 11)=1 of(0, 9)=1 event(2)=9 event(1)=49 event(0)=24");
        script.fresh("handler(0, 2, 9, 0, 1)=true step(0, 0, 3)=1 limit(0, 1, 1, 0)=true handler(1, 2, 1, 0, 1)=true"
                + " begin(1, 0)=1 call(1)=1 call(1)=2 call(1)=3 call(1)=4 call(0)=1 run(1)=1 of(1, 11)=0 run(1)=1"
                + " of(1, 11)=1 of(1, 3)=4 event(1)=40 event(0)=49");
    }

    private static void inTheOrderInWhichTheyCame(Script script) {
        script.about("It goes through them one after the other, in the order in which they came.");
        script.fresh("handler(0, 2, 1, 0, 1)=true step(0, 0, 3)=1 begin(1, 0)=1 call(0)=1 run(1)=1 call(0)=2 run(1)=1"
                + " call(0)=3 of(0, 7)=0 of(0, 5)=2 run(1)=1 of(0, 7)=1 of(0, 5)=0 run(2)=2 of(0, 5)=2 run(1)=1 of(0, 7)=2"
                + " of(0, 5)=0 run(3)=3 of(0, 3)=0");
    }

    private static void onlyTheFirstIsReady(Script script) {
        script.about("The first one of each HANDLER is READY.");
        // The second one of handler 0 came before that of handler 1, but waits for the first one.
        script.fresh("handler(0, 2, 5, 0, 1)=true step(0, 0, 1)=1 step(0, 5, 0)=2 step(0, 0, 1)=3"
                + " handler(1, 2, 5, 0, 1)=true step(1, 0, 1)=1 begin(1, 0)=1 call(0)=1 call(0)=2 call(1)=1"
                + " run(1)=1 of(0, 4)=1 desk(4)=0 run(1)=1 of(0, 9)=1 desk(4)=0 run(2)=2 desk(4)=1");
        // A lock of the first one lifts no other one.
        script.fresh("handler(0, 2, 1, 0, 1)=true step(0, 5, 0)=1 step(0, 0, 1)=2 handler(1, 2, 2, 0, 1)=true"
                + " step(1, 0, 1)=1 begin(1, 0)=1 call(0)=1 call(0)=2 run(1)=1 of(0, 9)=1 call(1)=1 of(0, 6)=1 desk(4)=1");
    }

    private static void begun(Script script) {
        script.about("One has BEGUN when it is chosen for the first time");
        script.fresh("handler(0, 2, 1, 0, 1)=true step(0, 0, 2)=1 begin(1, 0)=1 call(0)=1 call(0)=2 memory(0, 0)=NONE"
                + " event(0)=8 event(1)=8 event(2)=NONE run(1)=1 memory(0, 0)=1 event(0)=16 event(1)=8 run(1)=1 memory(0, 0)=NONE"
                + " event(0)=24 event(1)=16 run(1)=1 memory(0, 0)=1 event(0)=16 event(1)=24");
        script.about("then it gets an AREA with the BUDGET as room, inside the AREA of the MISSION but taking nothing of it, which is CURRENT for it.");
        for (int budget : new int[] {0, 1, 59, 60}) {
            script.fresh("handler(0, 2, 1, 0, 1)=true limit(0, 0, -1, " + budget + ")=true step(0, 0, 2)=1 begin(1, 0)=1"
                    + " call(0)=1 run(1)=1 memory(0, 0)=1 memory(0, 1)=" + budget + " desk(6)=0");
            script.fresh("handler(0, 2, 1, 0, 1)=true limit(0, 0, -1, " + budget + ")=true step(0, 0, 2)=1 begin(1, 100)=1"
                    + " call(0)=1 run(1)=1 desk(6)=100 desk(5)=0");
        }
    }

    private static void done(Script script) {
        script.about("It is done behind its last STEP (without STEPS as soon as it has BEGUN), or by a FAULT");
        script.fresh("handler(0, 2, 1, 0, 1)=true begin(1, 0)=1 call(0)=1 of(0, 3)=1 run(1)=1 of(0, 3)=0 of(0, 9)=1"
                + " event(0)=24 event(1)=16 event(2)=8 event(3)=NONE");
        script.fresh("handler(0, 2, 1, 0, 1)=true step(0, 1, 1)=1 begin(1, 0)=1 call(0)=1 run(1)=1 of(0, 3)=0 of(0, 9)=1");
        script.fresh("handler(0, 2, 1, 0, 1)=true step(0, 4, 0)=1 step(0, 1, 1)=2 begin(1, 0)=1 call(0)=1 run(1)=1"
                + " of(0, 3)=0 of(0, 9)=0 of(0, 13)=1 desk(8)=0");
        // Without STEPS it must be chosen all the same: one with a greater PRIORITY goes before it.
        script.fresh("handler(0, 2, 1, 0, 1)=true handler(1, 2, 2, 0, 1)=true step(1, 0, 2)=1 begin(1, 0)=1 call(0)=1"
                + " call(1)=1 run(2)=2 of(0, 3)=1 of(0, 9)=0 memory(0, 0)=NONE run(1)=1 of(0, 9)=1");
    }

    private static void nothingStaysBehind(Script script) {
        script.about("then all its AREAS are gone, and what it holds is free.");
        String body = "handler(0, 2, 1, 0, 1)=true step(0, 0, 1)=1 step(0, 3, 5)=2 step(0, 1, 5)=3 step(0, 5, 3)=4";
        // Behind the last STEP, and by each FAULT: the next one begins with nothing.
        for (String end : new String[] {"step(0, 7, 7)=5", "step(0, 1, 1)=5", "step(0, 9, 0)=5", "step(0, 5, 3)=5"}) {
            script.fresh(body + " " + end + " begin(1, 0)=1 call(0)=1 call(0)=2 run(2)=2 of(0, 3)=1 of(0, 6)=1"
                    + " memory(0, 0)=1 memory(0, 1)=20 memory(0, 2)=0 memory(0, 3)=0 memory(0, 4)=NONE memory(0, 5)=NONE");
        }
        // What was KEPT is not in an AREA of its own, and stays.
        script.fresh("handler(0, 2, 1, 0, 1)=true step(0, 2, 3)=1 step(0, 4, 0)=2 begin(1, 7)=1 call(0)=1 call(0)=2 run(1)=1"
                + " of(0, 13)=2 desk(5)=2 desk(6)=1");
    }

    private static void called(Script script) {
        script.about("A CALLED HANDLER that is CALLED gets a RELEASE, if the desk RUNS; nothing happens if it is not there, of another KIND, or the desk is ENDING.");
        String caller = "handler(0, 2, 9, 0, 1)=true step(0, 7, 1)=1 step(0, 0, 1)=2 ";
        script.fresh(caller + "handler(1, 2, 1, 0, 1)=true begin(1, 0)=1 call(0)=1 run(1)=1 of(1, 8)=1 of(0, 9)=1");
        script.fresh(caller + "begin(1, 0)=1 call(0)=1 run(1)=1 desk(3)=0 of(0, 9)=1 event(0)=24 event(1)=16 event(2)=8"
                + " event(3)=NONE");
        for (int kind = 0; kind <= 1; kind++) {
            script.fresh(caller + "handler(1, " + kind + ", 1, 50, 50)=true begin(1, 0)=1 call(0)=1 run(1)=1 of(1, 8)=0"
                    + " of(1, 11)=0 of(0, 9)=1 event(0)=24 event(1)=16 event(2)=8 event(3)=NONE");
        }
        script.fresh("handler(0, 2, 9, 0, 1)=true step(0, 0, 1)=1 step(0, 7, 1)=2 handler(1, 2, 1, 0, 1)=true begin(1, 0)=1"
                + " call(0)=1 run(1)=1 stop()=true desk(0)=2 run(9)=1 of(1, 8)=0 of(1, 11)=0 desk(12)=0 of(0, 9)=1");
        // It may be the one that calls.
        script.fresh("handler(0, 2, 9, 0, 1)=true step(0, 7, 0)=1 step(0, 0, 1)=2 begin(1, 0)=1 call(0)=1 run(1)=1"
                + " of(0, 9)=1 of(0, 3)=1 of(0, 8)=2");
    }
}
