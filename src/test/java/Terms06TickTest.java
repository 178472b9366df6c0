/** "Terms": a TICK, its MISSES, its 40 STEPS and its one TICK of work. */
public final class Terms06TickTest {
    /** Handler 7 is never there, so that calling it is a STEP that does nothing. */
    private static final String NOTHING = "7, 7)";

    public static void main(String[] args) {
        Script script = new Script("terms, a tick");
        first(script);
        exactlyAsManyTicksAgo(script);
        allAtOnce(script);
        withoutADeadline(script);
        inTheOrderInWhichTheyCame(script);
        missHandlers(script);
        untilOneTickOfWork(script);
        untilNoneIsReady(script);
        untilFortySteps(script);
        faultsCount(script);
        withoutStepsDoNotCount(script);
        chosenAnew(script);
        partsOfWork(script);
        script.end();
    }

    private static void first(Script script) {
        script.about("A TICK: first, if the desk RUNS, RELEASES come by LEVEL 1 or 0 (of several HANDLERS by their numbers in LEVEL 1). Then each RELEASE that is not done, and came exactly as many TICKS ago as the DEADLINE of its HANDLER says");
        // What comes in this TICK comes before the MISS, and that before the work.
        script.fresh("handler(0, 0, 1, 0, 2)=true limit(0, 2, -1, 0)=true step(0, 0, 3)=1 begin(1, 0)=1 run(3)=3"
                + " event(4)=8 event(3)=16 event(2)=8 event(1)=40 event(0)=24");
        // While ENDING none come, but the MISS is one.
        script.fresh("handler(0, 0, 1, 0, 1)=true limit(0, 1, -1, 0)=true step(0, 0, 3)=1 begin(1, 0)=1 run(1)=1 stop()=true"
                + " run(1)=1 of(0, 8)=1 of(0, 10)=1 event(0)=40");
    }

    private static void exactlyAsManyTicksAgo(Script script) {
        script.about("came exactly as many TICKS ago as the DEADLINE of its HANDLER says (not 0)");
        for (int deadline : new int[] {1, 2, 19}) {
            String late = "handler(0, 2, 1, 0, 1)=true step(0, 0, 20)=1 limit(0, " + deadline + ", -1, 0)=true begin(1, 0)=1"
                    + " run(1)=1 call(0)=1 ";
            script.fresh(late + "run(" + deadline + ")=" + deadline + " of(0, 10)=0 run(1)=1 of(0, 10)=1 run(20) of(0, 10)=1");
        }
        // A TICK of work less, and it is done before.
        script.fresh("handler(0, 2, 1, 0, 1)=true step(0, 0, 20)=1 limit(0, 20, -1, 0)=true begin(1, 0)=1 call(0)=1 run(20)=20"
                + " of(0, 9)=1 of(0, 10)=0 run(5)=5 of(0, 10)=0");
        script.fresh("handler(0, 2, 1, 0, 1)=true step(0, 0, 20)=1 step(0, 0, 1)=2 limit(0, 20, -1, 0)=true begin(1, 0)=1"
                + " call(0)=1 run(20)=20 of(0, 10)=0 run(1)=1 of(0, 10)=1 of(0, 9)=1");
        // 60 is the greatest DEADLINE.
        script.fresh("handler(0, 2, 1, 0, 1)=true step(0, 0, 20) step(0, 0, 20) step(0, 0, 20) step(0, 0, 20)"
                + " limit(0, 60, -1, 0)=true begin(1, 0)=1 call(0)=1 run(20)=20 run(20)=20 run(20)=20 of(0, 10)=0 run(1)=1"
                + " of(0, 10)=1");
        // One that has not BEGUN can be a MISS, and so can each of the four of a HANDLER.
        script.fresh("handler(0, 2, 1, 0, 1)=true step(0, 0, 9)=1 limit(0, 1, -1, 0)=true begin(1, 0)=1 call(0)=1 call(0)=2"
                + " call(0)=3 call(0)=4 run(1)=1 of(0, 10)=0 run(1)=1 of(0, 10)=4 run(1)=1 of(0, 10)=4");
    }

    private static void allAtOnce(Script script) {
        script.about("Then each RELEASE that is not done, and came exactly as many TICKS ago as the DEADLINE of its HANDLER says");
        // Four of each of the eight HANDLERS are MISSES in one TICK.
        script.fresh("");
        for (int h = 0; h <= 7; h++) {
            script.then("handler(" + h + ", 2, 1, 0, 1)=true step(" + h + ", 0, 9)=1 limit(" + h + ", 1, -1, 0)=true");
        }
        script.then("begin(1, 0)=1");
        for (int n = 1; n <= 4; n++) {
            for (int h = 7; h >= 0; h--) {
                script.then("call(" + h + ")=" + n);
            }
        }
        script.then("run(2)=2");
        for (int k = 0; k < 32; k++) {
            script.then("event(" + k + ")=" + (40 + (k & 7)));
        }
        for (int h = 0; h <= 7; h++) {
            script.then("of(" + h + ", 10)=4");
        }
    }

    private static void withoutADeadline(Script script) {
        script.about("a DEADLINE (0: none)");
        script.fresh("handler(0, 2, 1, 0, 1)=true step(0, 0, 20)=1 begin(1, 0)=1 call(0)=1 run(20)=20 of(0, 10)=0");
        script.fresh("handler(0, 2, 1, 0, 1)=true limit(0, 0, 0, 0)=true step(0, 0, 20)=1 begin(1, 0)=1 call(0)=1 run(20)=20"
                + " of(0, 10)=0 of(0, 8)=1");
    }

    private static void inTheOrderInWhichTheyCame(Script script) {
        script.about("in the order in which they came, is a MISS");
        // Deadlines 3, 2 and 1: the three came one TICK after the other and are MISSES in one TICK.
        script.fresh("handler(1, 2, 1, 0, 1)=true limit(1, 1, -1, 0)=true handler(2, 2, 1, 0, 1)=true limit(2, 2, -1, 0)=true"
                + " handler(5, 2, 1, 0, 1)=true limit(5, 3, -1, 0)=true handler(0, 2, 9, 0, 1)=true step(0, 0, 20)=1 begin(1, 0)=1"
                + " call(0)=1 call(5)=1 run(1)=1 call(2)=1 run(1)=1 call(1)=1 run(1)=1 event(0)=9 run(1)=1 event(2)=45 event(1)=42"
                + " event(0)=41");
        script.fresh("handler(1, 2, 1, 0, 1)=true limit(1, 1, -1, 0)=true handler(2, 2, 1, 0, 1)=true limit(2, 1, -1, 0)=true"
                + " handler(0, 2, 9, 0, 1)=true step(0, 0, 20)=1 begin(1, 0)=1 call(0)=1 call(2)=1 call(1)=1 call(2)=2 run(2)=2"
                + " event(2)=42 event(1)=41 event(0)=42");
    }

    private static void missHandlers(Script script) {
        script.about("its MISS HANDLER, if there is one, is CALLED.");
        String late = "handler(0, 2, 5, 0, 1)=true step(0, 0, 4)=1 ";
        script.fresh(late + "limit(0, 2, -1, 0)=true begin(1, 0)=1 call(0)=1 run(3)=3 of(0, 10)=1 event(0)=40 desk(3)=1");
        for (int miss = 1; miss <= 7; miss++) {
            script.fresh(late + "limit(0, 2, " + miss + ", 0)=true handler(" + miss + ", 2, 1, 0, 1)=true begin(1, 0)=1 call(0)=1"
                    + " run(3)=3 event(1)=40 event(0)=" + (8 + miss) + " of(" + miss + ", 7)=2");
        }
        script.fresh(late + "limit(0, 2, 0, 0)=true begin(1, 0)=1 call(0)=1 run(3)=3 event(1)=40 event(0)=8 of(0, 3)=2");
        // Not there, of another KIND, or while ENDING: nothing but the MISS.
        script.fresh(late + "limit(0, 2, 7, 0)=true begin(1, 0)=1 call(0)=1 run(3)=3 event(0)=40 of(0, 10)=1 desk(3)=1");
        for (int kind = 0; kind <= 1; kind++) {
            script.fresh(late + "limit(0, 2, 7, 0)=true handler(7, " + kind + ", 1, 50, 50)=true begin(1, 0)=1 call(0)=1 run(3)=3"
                    + " event(0)=40 of(7, 8)=0 of(7, 11)=0");
        }
        script.fresh(late + "limit(0, 2, 7, 0)=true handler(7, 2, 1, 0, 1)=true begin(1, 0)=1 call(0)=1 run(1)=1 stop()=true"
                + " run(2)=2 event(0)=40 of(0, 10)=1 of(7, 8)=0 of(7, 11)=0 desk(12)=0");
        // It was there as CALLED one when the MISS was laid down, and is of another KIND now.
        script.fresh(late + "handler(7, 2, 1, 0, 1)=true limit(0, 2, 7, 0)=true handler(7, 0, 1, 50, 50)=true begin(1, 0)=1"
                + " call(0)=1 run(3)=3 of(0, 10)=1 of(7, 8)=0");
    }

    private static void untilOneTickOfWork(Script script) {
        script.about("Then, until one TICK of work was done");
        script.fresh("handler(0, 2, 1, 0, 1)=true step(0, 1, 1)=1 step(0, 0, 1)=2 step(0, 1, 1)=3 step(0, 0, 1)=4 step(0, 1, 1)=5"
                + " begin(1, 0)=1 call(0)=1 run(1)=1 of(0, 4)=2 desk(8)=1 run(1)=1 of(0, 4)=4 desk(8)=2 run(1)=1 of(0, 9)=1 desk(8)=3"
                + " desk(13)=1 of(0, 15)=2");
        // Nor does another one go on in that TICK.
        script.fresh("handler(0, 2, 2, 0, 1)=true step(0, 0, 1)=1 handler(1, 2, 1, 0, 1)=true begin(1, 0)=1 call(0)=1 call(1)=1"
                + " run(1)=1 of(0, 9)=1 of(1, 9)=0 memory(1, 0)=NONE run(1)=1 of(1, 9)=1");
    }

    private static void untilNoneIsReady(Script script) {
        script.about("there is none READY");
        script.fresh("begin(1, 0)=1 run(1)=1 desk(1)=1 desk(13)=1");
        script.fresh("handler(0, 2, 1, 0, 1)=true step(0, 1, 1)=1 begin(1, 0)=1 call(0)=1 call(0)=2 call(0)=3 run(1)=1 of(0, 9)=3"
                + " desk(13)=1 desk(1)=1");
    }

    /** A body with so many STEPS that do nothing. */
    private static void nothings(Script script, int h, int steps) {
        script.times(steps, "step(" + h + ", " + NOTHING);
    }

    private static void untilFortySteps(Script script) {
        script.about("or 40 STEPS that are not WORK were done in this TICK");
        // 4 times 10 STEPS: the work of handler 1 waits for the next TICK, and has not BEGUN.
        script.fresh("handler(0, 2, 5, 0, 1)=true");
        nothings(script, 0, 10);
        script.then("handler(1, 2, 1, 0, 1)=true step(1, 0, 1)=1 begin(1, 0)=1 call(0)=1 call(0)=2 call(0)=3 call(0)=4 call(1)=1"
                + " run(1)=1 of(0, 9)=4 of(1, 15)=0 memory(1, 0)=NONE event(0)=24 desk(13)=1 run(1)=1 of(1, 9)=1 desk(13)=1");
        // 39: there is work in this TICK still.
        script.fresh("handler(0, 2, 5, 0, 1)=true");
        nothings(script, 0, 10);
        script.then("handler(2, 2, 4, 0, 1)=true");
        nothings(script, 2, 9);
        script.then("handler(1, 2, 1, 0, 1)=true step(1, 0, 1)=1 begin(1, 0)=1 call(0)=1 call(0)=2 call(0)=3 call(2)=1 call(1)=1"
                + " run(1)=1 of(0, 9)=3 of(2, 9)=1 of(1, 9)=1 desk(13)=0");
        // 41 in one TICK's wish: the last one is the first of the next TICK.
        script.fresh("handler(0, 2, 5, 0, 1)=true");
        nothings(script, 0, 10);
        script.then("handler(1, 2, 1, 0, 1)=true step(1, 1, 1)=1 begin(1, 0)=1 call(0)=1 call(0)=2 call(0)=3 call(0)=4 call(1)=1"
                + " run(1)=1 desk(8)=0 run(1)=1 desk(8)=1 of(1, 9)=1");
        // Within a BODY: one with 3 STEPS that calls itself is in its fourteenth RELEASE behind 40 of them.
        script.fresh("handler(0, 2, 5, 0, 1)=true step(0, 7, 0)=1 step(0, 7, 7)=2 step(0, 7, 7)=3 begin(1, 0)=1 call(0)=1"
                + " run(1)=1 of(0, 9)=13 of(0, 4)=1 memory(0, 0)=1 run(1)=1 of(0, 9)=26 of(0, 4)=2 run(1)=1 of(0, 9)=40 of(0, 4)=0"
                + " desk(13)=3");
        // Each TICK has its 40.
        script.fresh("handler(0, 2, 5, 0, 1)=true step(0, 7, 0)=1 begin(1, 0)=1 call(0)=1");
        for (int n = 1; n <= 5; n++) {
            script.then("run(1)=1 of(0, 9)=" + 40 * n + " desk(1)=" + n + " desk(13)=" + n);
        }
    }

    private static void faultsCount(Script script) {
        script.about("(those with a FAULT count, a RELEASE without STEPS does not)");
        // 4 times 9 STEPS and a FAULT.
        script.fresh("handler(0, 2, 5, 0, 1)=true");
        nothings(script, 0, 9);
        script.then("step(0, 4, 0)=10 handler(1, 2, 1, 0, 1)=true step(1, 0, 1)=1 begin(1, 0)=1 call(0)=1 call(0)=2 call(0)=3"
                + " call(0)=4 call(1)=1 run(1)=1 of(0, 13)=4 of(1, 15)=0 event(0)=32 run(1)=1 of(1, 15)=1");
        // A CALL of itself and a FAULT, 20 times over.
        script.fresh("handler(0, 2, 5, 0, 1)=true step(0, 7, 0)=1 step(0, 4, 0)=2 handler(1, 2, 1, 0, 1)=true step(1, 0, 1)=1"
                + " begin(1, 0)=1 call(0)=1 call(1)=1 run(1)=1 of(0, 13)=20 of(0, 8)=21 of(1, 15)=0");
    }

    private static void withoutStepsDoNotCount(Script script) {
        script.about("(those with a FAULT count, a RELEASE without STEPS does not)");
        // 39 STEPS and 16 RELEASES without one, before them and among them, and the work all the same.
        script.fresh("handler(0, 2, 2, 0, 1)=true handler(1, 2, 1, 0, 1)=true step(1, 0, 1)=1 handler(2, 2, 2, 0, 1)=true");
        nothings(script, 0, 10);
        nothings(script, 2, 9);
        for (int h = 3; h <= 6; h++) {
            script.then("handler(" + h + ", 2, " + (h == 3 ? 2 : 9) + ", 0, 1)=true");
        }
        script.then("begin(1, 0)=1 call(0)=1 call(3)=1 call(0)=2 call(3)=2 call(0)=3 call(3)=3 call(2)=1 call(3)=4 call(1)=1");
        for (int h = 4; h <= 6; h++) {
            script.times(4, "call(" + h + ")");
        }
        script.then("run(1)=1 of(3, 9)=4 of(4, 9)=4 of(5, 9)=4 of(6, 9)=4 of(0, 9)=3 of(2, 9)=1 of(1, 9)=1 desk(13)=0");
        // Behind 40 STEPS none is chosen any more, even without STEPS.
        script.fresh("handler(0, 2, 5, 0, 1)=true");
        nothings(script, 0, 10);
        script.then("handler(1, 2, 1, 0, 1)=true begin(1, 0)=1 call(0)=1 call(0)=2 call(0)=3 call(0)=4 call(1)=1 run(1)=1"
                + " of(0, 9)=4 of(1, 9)=0 event(0)=24 run(1)=1 of(1, 9)=1");
        // 32 RELEASES without STEPS are all done in one TICK.
        script.fresh("");
        for (int h = 0; h <= 7; h++) {
            script.then("handler(" + h + ", 2, 9, 0, 1)=true");
        }
        script.then("begin(1, 0)=1");
        for (int h = 0; h <= 7; h++) {
            script.times(4, "call(" + h + ")");
        }
        script.then("desk(3)=32 run(1)=1 desk(3)=0 desk(13)=1 event(0)=31 event(1)=23 event(31)=20");
    }

    private static void chosenAnew(Script script) {
        script.about("a RELEASE is chosen (anew for each STEP), and does its next STEP");
        // UNLOCK lets the other one go before the next STEP.
        script.fresh("ceiling(0, 5)=true handler(0, 2, 1, 0, 1)=true step(0, 5, 0)=1 step(0, 7, 1)=2 step(0, 2, 1)=3"
                + " step(0, 6, 0)=4 step(0, 2, 2)=5 step(0, 0, 1)=6 handler(1, 2, 4, 0, 1)=true step(1, 2, 3)=1 step(1, 0, 1)=2"
                + " begin(1, 9)=1 call(0)=1 run(1)=1 of(0, 4)=4 desk(5)=2 desk(6)=5 of(1, 9)=1 run(1)=1 desk(5)=3 of(0, 9)=1");
        // CALL of a greater one lets it go at once.
        script.fresh("handler(0, 2, 1, 0, 1)=true step(0, 7, 1)=1 step(0, 0, 1)=2 handler(1, 2, 2, 0, 1)=true step(1, 0, 1)=1"
                + " begin(1, 0)=1 call(0)=1 run(1)=1 of(1, 9)=1 of(0, 15)=0 of(0, 4)=1 run(1)=1 of(0, 9)=1");
    }

    private static void partsOfWork(Script script) {
        script.about("of WORK it does one TICK, and the STEP is over when all its TICKS are done. One whose last STEP is over is done at once. Then TIME is 1 more.");
        script.fresh("handler(0, 2, 1, 0, 1)=true step(0, 0, 2)=1 step(0, 0, 1)=2 begin(1, 0)=1 call(0)=1 run(1)=1 of(0, 4)=0"
                + " of(0, 5)=1 run(1)=1 of(0, 4)=1 of(0, 5)=0 desk(1)=2 run(1)=1 of(0, 9)=1 event(0)=24 desk(1)=3");
        // Another one in between: it goes on where it was.
        script.fresh("handler(0, 2, 1, 0, 1)=true step(0, 0, 4)=1 handler(1, 2, 2, 0, 1)=true step(1, 0, 2)=1 begin(1, 0)=1"
                + " call(0)=1 run(3)=3 call(1)=1 run(2)=2 of(0, 5)=3 of(1, 9)=1 run(1)=1 of(0, 9)=1");
    }
}
