public final class Promise09RunTest {
    /** Handler 7 is never there, so that calling it is a step that does nothing. */
    private static final String IDLE_STEP = "7, 7";

    public static void main(String[] args) {
        Script script = new Script("promise 9");
        script.about("So many TICKS (1 to 20), or as many as there are until the MISSION is over: how many. REFUSED if n is not so; NONE in SETUP.");
        script.fresh("run(0)=REFUSED run(1)=NONE run(20)=NONE run(21)=REFUSED begin(1, 0)=1 run(0)=REFUSED"
                + " run(21)=REFUSED run(-1)=REFUSED run(MAX)=REFUSED run(MIN)=REFUSED desk(1)=0 run(1)=1 desk(1)=1"
                + " run(20)=20 desk(1)=21 desk(13)=21 stop()=true run(1)=NONE run(0)=REFUSED desk(1)=21"
                + " begin(1, 0)=2 desk(1)=21 run(2)=2 desk(1)=23");
        edges(script);
        untilTheMissionIsOver(script);
        fortySteps(script);
        withoutSteps(script);
        oneTickOfWork(script);
        chosenAnew(script);
        script.end();
    }

    private static void edges(Script script) {
        script.about("So many TICKS (1 to 20), or as many as there are until the MISSION is over: how many.");
        for (int n = 1; n <= 20; n++) {
            script.fresh("begin(1, 0)=1 run(" + n + ")=" + n + " desk(1)=" + n + " desk(13)=" + n);
            script.fresh("handler(0, 2, 1, 0, 1)=true step(0, 0, 10)=1 begin(1, 0)=1 call(0)=1 run(1)=1 stop()=true run(" + n + ")="
                    + Math.min(n, 9) + " desk(0)=" + (n >= 9 ? 0 : 2) + " desk(1)=" + (1 + Math.min(n, 9)));
        }
        script.about("REFUSED if n is not so; NONE in SETUP.");
        for (String n : new String[] {"MIN", "-1", "0", "21", "MAX"}) {
            script.fresh("run(" + n + ")=REFUSED begin(1, 0)=1 run(" + n + ")=REFUSED desk(1)=0 stop()=true run(" + n + ")=REFUSED"
                    + " run(1)=NONE desk(1)=0");
        }
    }

    private static void untilTheMissionIsOver(Script script) {
        script.about("or as many as there are until the MISSION is over: how many.");
        // The tick in which the mission is over counts still.
        script.fresh("handler(0, 1, 1, 4, 1)=true step(0, 8, 0)=1 begin(1, 0)=1 run(20)=5 desk(0)=0 desk(1)=5"
                + " desk(13)=5 run(1)=NONE");
        script.fresh("handler(0, 1, 1, 4, 1)=true step(0, 8, 0)=1 step(0, 0, 3)=2 begin(1, 0)=1 run(5)=5 desk(0)=2"
                + " run(20)=2 desk(0)=0 desk(1)=7 desk(13)=4 of(0, 9)=1");
        // Ending goes on after the end of a run, and needs its ticks.
        script.fresh("handler(0, 2, 1, 0, 1)=true step(0, 0, 4)=1 begin(1, 0)=1 call(0)=1 run(1)=1 stop()=true"
                + " run(2)=2 desk(0)=2 run(2)=1 desk(0)=0");
    }

    private static void idleSteps(Script script, int h, int steps) {
        for (int n = 0; n < steps; n++) {
            script.then("step(" + h + ", " + IDLE_STEP + ")");
        }
    }

    /** Handler 0 has 9 idle steps and one with a fault, handler 1 one tick of work. */
    private static void idleAndWorker(Script script) {
        script.fresh("handler(0, 2, 5, 0, 1)=true");
        idleSteps(script, 0, 9);
        script.then("step(0, 4, 0)=10 handler(1, 2, 1, 0, 1)=true step(1, 0, 1)=1");
    }

    private static void fortySteps(Script script) {
        script.about("or 40 STEPS that are not WORK were done in this TICK");
        // 40 steps in all, those with a fault among them: no work in this tick, nor has it begun.
        idleAndWorker(script);
        script.then("begin(1, 0)=1 call(0)=1 call(0)=2 call(0)=3 call(0)=4 call(1)=1 run(1)=1 of(0, 13)=4"
                + " of(1, 15)=0 desk(13)=1 memory(1, 0)=NONE event(0)=32 run(1)=1 of(1, 9)=1 desk(13)=1");
        // 39 steps: there is work in the same tick.
        idleAndWorker(script);
        script.then("handler(2, 2, 3, 0, 1)=true");
        idleSteps(script, 2, 9);
        script.then("begin(1, 0)=1 call(0)=1 call(0)=2 call(0)=3 call(1)=1 call(2)=1 run(1)=1 of(2, 9)=1 of(1, 9)=1"
                + " desk(13)=0");
        // Releases without steps are not counted.
        idleAndWorker(script);
        script.then("handler(2, 2, 3, 0, 1)=true handler(3, 2, 9, 0, 1)=true");
        idleSteps(script, 2, 9);
        script.then("begin(1, 0)=1 call(3)=1 call(3)=2 call(3)=3 call(3)=4 call(0)=1 call(0)=2 call(0)=3 call(1)=1"
                + " call(2)=1 run(1)=1 of(3, 9)=4 of(2, 9)=1 of(1, 9)=1 desk(13)=0");
        // In the middle of a body: it goes on at the next step.
        script.fresh("handler(0, 2, 5, 0, 1)=true");
        idleSteps(script, 0, 9);
        script.then("begin(1, 0)=1 call(0)=1 call(0)=2 call(0)=3 call(0)=4 run(1)=1 of(0, 9)=4 of(0, 3)=0");
        script.fresh("handler(0, 2, 5, 0, 1)=true step(0, 7, 0)=1 step(0, 7, 1)=2 step(0, 7, 1)=3"
                + " begin(1, 0)=1 call(0)=1 run(1)=1 of(0, 9)=13 of(0, 4)=1 of(0, 3)=2 desk(1)=1");
    }

    private static void withoutSteps(Script script) {
        script.about("(those with a FAULT count, a RELEASE without STEPS does not)");
        script.fresh("handler(0, 2, 1, 0, 1)=true handler(1, 2, 1, 0, 1)=true begin(1, 0)=1 call(0)=1 call(0)=2"
                + " call(1)=1 call(0)=3 run(1)=1 of(0, 9)=3 of(1, 9)=1 desk(13)=1 desk(3)=0"
                + " event(0)=24 event(1)=16 event(2)=25 event(3)=17 event(4)=24 event(5)=16 event(6)=24 event(7)=16");
    }

    private static void oneTickOfWork(Script script) {
        script.about("until one TICK of work was done");
        // Behind the tick of work nothing more is done, even if the next step is not work.
        script.fresh("handler(0, 2, 1, 0, 1)=true step(0, 0, 1)=1 step(0, 1, 1)=2 step(0, 0, 1)=3 begin(1, 0)=1"
                + " call(0)=1 run(1)=1 desk(8)=0 of(0, 4)=1 run(1)=1 desk(8)=1 of(0, 9)=1 of(0, 15)=2 desk(13)=0");
    }

    private static void chosenAnew(Script script) {
        script.about("a RELEASE is chosen (anew for each STEP)");
        // The called handler with the greater priority goes on before the caller's next step.
        script.fresh("handler(0, 2, 1, 0, 1)=true step(0, 7, 1)=1 step(0, 1, 3)=2 step(0, 0, 1)=3"
                + " handler(1, 2, 2, 0, 1)=true step(1, 2, 4)=1 begin(1, 4)=1 call(0)=1 run(1)=1"
                + " event(0)=24 event(1)=25 event(2)=17 event(3)=9 event(4)=16 event(5)=8");
        // With an equal one the caller came first.
        script.fresh("handler(0, 2, 2, 0, 1)=true step(0, 7, 1)=1 step(0, 1, 3)=2 handler(1, 2, 2, 0, 1)=true"
                + " step(1, 0, 1)=1 begin(1, 4)=1 call(0)=1 run(1)=1 event(0)=25 event(1)=17 event(2)=24 event(3)=9");
    }
}
