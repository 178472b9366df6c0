public final class Promise04StepTest {
    private static final int[] LEAST = {1, 1, 1, 1, 0, 0, 0, 0, 0, 0};
    private static final int[] GREATEST = {20, 20, 20, 30, 0, 3, 3, 7, 0, 1};

    public static void main(String[] args) {
        Script script = new Script("promise 4");
        script.about("REFUSED if it is not there, or op (0 to 9) or a is not as said");
        for (int op = 0; op < 10; op++) {
            if (op == 4 || op == 8) {
                anyNumber(script, op);
            } else {
                bounds(script, op);
            }
        }
        script.fresh("handler(0, 2, 1, 0, 1)=true step(0, -1, 1)=REFUSED step(0, 10, 1)=REFUSED"
                + " step(0, MIN, 1)=REFUSED step(0, MAX, 1)=REFUSED step(-1, 0, 1)=REFUSED"
                + " step(8, 0, 1)=REFUSED step(1, 0, 1)=REFUSED step(MAX, 0, 1)=REFUSED of(0, 2)=0");
        oneAnswerEach(script);
        orderOfAnswers(script);
        stepsGoInOrder(script);
        script.end();
    }

    private static void anyNumber(Script script, int op) {
        script.fresh("handler(0, 2, 1, 0, 1)=true step(0, " + op + ", 0)=1 step(0, " + op + ", -1)=2"
                + " step(0, " + op + ", MIN)=3 step(0, " + op + ", MAX)=4 of(0, 2)=4");
    }

    private static void bounds(Script script, int op) {
        script.fresh("handler(0, 2, 1, 0, 1)=true step(0, " + op + ", " + LEAST[op] + ")=1"
                + " step(0, " + op + ", " + GREATEST[op] + ")=2"
                + " step(0, " + op + ", " + (LEAST[op] - 1) + ")=REFUSED"
                + " step(0, " + op + ", " + (GREATEST[op] + 1) + ")=REFUSED"
                + " step(0, " + op + ", MIN)=REFUSED step(0, " + op + ", MAX)=REFUSED of(0, 2)=2");
    }

    private static void oneAnswerEach(Script script) {
        for (int h = 0; h <= 7; h++) {
            script.about("HANDLER h gets one more STEP: how many it has then.");
            script.fresh("handler(" + h + ", 2, 1, 0, 1)=true of(" + h + ", 2)=0");
            for (int n = 1; n <= 10; n++) {
                script.then("step(" + h + ", 1, 1)=" + n + " of(" + h + ", 2)=" + n);
            }
            script.about("FULL if it has 10.");
            script.then("step(" + h + ", 1, 1)=FULL step(" + h + ", 4, MAX)=FULL of(" + h + ", 2)=10");
            script.about("REFUSED if it is not there, or op (0 to 9) or a is not as said");
            int absent = h + 1 & 7;
            script.then("step(" + absent + ", 1, 1)=REFUSED step(" + h + ", 10, 1)=REFUSED step(" + h + ", 1, 0)=REFUSED");
            // Another one is not full; one that is laid down anew has room again.
            script.then("handler(" + absent + ", 2, 1, 0, 1)=true step(" + absent + ", 1, 1)=1 handler(" + h + ", 2, 1, 0, 1)=true"
                    + " step(" + h + ", 1, 1)=1");
        }
        script.about("NONE if the desk is not in SETUP");
        script.fresh("handler(0, 2, 1, 0, 1)=true step(0, 0, 2)=1 begin(1, 0)=1 step(0, 0, 1)=NONE call(0)=1 run(1)=1 step(0, 0, 1)=NONE"
                + " stop()=true desk(0)=2 step(0, 0, 1)=NONE of(0, 2)=1 run(1)=1 desk(0)=0 step(0, 0, 1)=2");
    }

    private static void orderOfAnswers(Script script) {
        script.about("NONE if the desk is not in SETUP; FULL if it has 10.");
        script.fresh("handler(0, 2, 1, 0, 1)=true");
        for (int n = 1; n <= 10; n++) {
            script.then("step(0, 0, 1)=" + n);
        }
        script.then("step(0, 0, 1)=FULL step(0, 0, 21)=REFUSED of(0, 2)=10 begin(1, 0)=1"
                + " step(0, 0, 1)=NONE step(0, 0, 0)=REFUSED step(1, 0, 1)=REFUSED of(0, 2)=10"
                + " call(0)=1 run(1)=1 stop()=true desk(0)=2 step(0, 0, 1)=NONE run(20)=9"
                + " of(0, 15)=10 step(0, 0, 1)=FULL");
    }

    private static void stepsGoInOrder(Script script) {
        script.about("HANDLER h gets one more STEP: how many it has then.");
        script.fresh("handler(0, 2, 1, 0, 1)=true step(0, 0, 2)=1 step(0, 1, 3)=2 step(0, 0, 1)=3 step(0, 1, 4)=4"
                + " begin(1, 0)=1 call(0)=1 run(1)=1 of(0, 4)=0 of(0, 5)=1 run(1)=1 of(0, 4)=1 of(0, 5)=0"
                + " desk(8)=0 run(1)=1 of(0, 4)=3 memory(0, 5)=3 desk(8)=1 run(1)=1 desk(8)=2 of(0, 9)=1"
                + " of(0, 15)=3");
    }
}
