public final class Promise03LimitTest {
    public static void main(String[] args) {
        Script script = new Script("promise 3");
        script.about("HANDLER h has this DEADLINE (0 to 60), MISS HANDLER (0 to 7, there or not; -1: none) and BUDGET (0 to 60): true; false likewise, or if it is not there.");
        script.fresh("limit(0, 0, -1, 0)=false handler(0, 2, 1, 0, 1)=true limit(0, 0, -1, 0)=true"
                + " limit(0, 60, 7, 60)=true limit(0, 30, 0, 30)=true limit(1, 0, -1, 0)=false");
        wrongNumbers(script);
        edgesThatAreFine(script);
        script.about("false likewise, or if it is not there.");
        script.fresh("handler(0, 2, 1, 0, 1)=true step(0, 1, 20)=1 step(0, 0, 2)=2 begin(1, 0)=1"
                + " limit(0, 1, 0, 0)=false call(0)=1 run(1)=1 stop()=true desk(0)=2 limit(0, 1, 0, 0)=false"
                + " run(5)=1 of(0, 9)=1 of(0, 10)=0 limit(0, 1, -1, 19)=true"
                + " begin(1, 0)=2 call(0)=1 run(1)=1 of(0, 12)=1");
        budgets(script);
        deadlines(script);
        missHandlers(script);
        script.end();
    }

    private static void edgesThatAreFine(Script script) {
        script.about("HANDLER h has this DEADLINE (0 to 60), MISS HANDLER (0 to 7, there or not; -1: none) and BUDGET (0 to 60): true");
        for (int h : new int[] {0, 7}) {
            for (int deadline : new int[] {0, 1, 59, 60}) {
                for (int miss : new int[] {-1, 0, 6, 7}) {
                    script.fresh("handler(" + h + ", 2, 1, 0, 1)=true limit(" + h + ", " + deadline + ", " + miss + ", 0)=true"
                            + " limit(" + h + ", " + deadline + ", " + miss + ", 60)=true");
                }
            }
        }
        // The latest one counts.
        script.fresh("handler(0, 2, 1, 0, 1)=true step(0, 0, 9)=1 limit(0, 1, 0, 5)=true limit(0, 3, -1, 7)=true begin(1, 0)=1"
                + " call(0)=1 run(2)=2 memory(0, 1)=7 of(0, 10)=0 run(2)=2 of(0, 10)=1 of(0, 8)=1");
    }

    private static void wrongNumbers(Script script) {
        script.about("false likewise, or if it is not there.");
        String[] wrong = {
            "-1, 0, -1, 0", "8, 0, -1, 0", "MAX, 0, -1, 0", "MIN, 0, -1, 0", "1, 0, -1, 0",
            "0, -1, -1, 0", "0, 61, -1, 0", "0, MAX, -1, 0", "0, 0, -2, 0", "0, 0, 8, 0", "0, 0, MIN, 0",
            "0, 0, -1, -1", "0, 0, -1, 61", "0, 0, -1, MIN"};
        for (String numbers : wrong) {
            script.fresh("handler(0, 2, 1, 0, 1)=true step(0, 1, 5)=1 step(0, 0, 3)=2 limit(0, 2, 1, 5)=true"
                    + " handler(2, 2, 1, 0, 1)=true limit(" + numbers + ")=false"
                    + " begin(1, 0)=1 call(0)=1 run(1)=1 memory(0, 1)=0 run(4)=4 of(0, 10)=1");
        }
    }

    private static void budgets(Script script) {
        script.about("BUDGET (0 to 60)");
        script.fresh("handler(0, 2, 1, 0, 1)=true step(0, 0, 1)=1 step(0, 0, 1)=2 begin(1, 0)=1 call(0)=1"
                + " run(1)=1 memory(0, 1)=20");
        int[] budgets = {0, 1, 60};
        for (int budget : budgets) {
            script.fresh("handler(0, 2, 1, 0, 1)=true step(0, 0, 2)=1 limit(0, 0, -1, " + budget + ")=true"
                    + " begin(1, 0)=1 call(0)=1 run(1)=1 memory(0, 1)=" + budget);
        }
    }

    private static void deadlines(Script script) {
        script.about("DEADLINE (0 to 60)");
        // Done within the tick before the deadline: no miss; one tick more of work: a miss.
        script.fresh("handler(0, 2, 1, 0, 1)=true step(0, 0, 3)=1 limit(0, 3, -1, 0)=true begin(1, 0)=1"
                + " call(0)=1 run(5)=5 of(0, 9)=1 of(0, 10)=0");
        script.fresh("handler(0, 2, 1, 0, 1)=true step(0, 0, 4)=1 limit(0, 3, -1, 0)=true begin(1, 0)=1"
                + " call(0)=1 run(3)=3 of(0, 10)=0 run(1)=1 of(0, 10)=1 event(0)=24 event(1)=40"
                + " run(5)=5 of(0, 10)=1");
        // Deadline 0 is none; 60 is the greatest.
        script.fresh("handler(0, 2, 1, 0, 1)=true step(0, 0, 20)=1 limit(0, 0, 0, 0)=true begin(1, 0)=1"
                + " call(0)=1 run(20)=20 of(0, 10)=0 of(0, 8)=1");
        script.fresh("handler(0, 2, 1, 0, 1)=true step(0, 0, 20)=1 step(0, 0, 20)=2 step(0, 0, 20)=3"
                + " step(0, 0, 20)=4 limit(0, 60, -1, 0)=true begin(1, 0)=1 call(0)=1"
                + " run(20)=20 run(20)=20 run(20)=20 of(0, 10)=0 run(1)=1 of(0, 10)=1 run(10)=10 of(0, 10)=1");
        // A release that waits behind another one of its handler can be missed too.
        script.fresh("handler(0, 2, 1, 0, 1)=true step(0, 0, 2)=1 limit(0, 2, -1, 0)=true begin(1, 0)=1"
                + " call(0)=1 call(0)=2 call(0)=3 run(2)=2 of(0, 10)=0 run(1)=1 of(0, 10)=2"
                + " event(2)=40 event(1)=40 event(0)=16 run(9)=9 of(0, 10)=2");
    }

    private static void missHandlers(Script script) {
        script.about("MISS HANDLER (0 to 7, there or not; -1: none)");
        // Called at the miss, before the tick's work.
        script.fresh("handler(0, 2, 5, 0, 1)=true step(0, 0, 4)=1 limit(0, 2, 1, 0)=true"
                + " handler(1, 2, 6, 0, 1)=true step(1, 0, 1)=1 begin(1, 0)=1 call(0)=1 run(2)=2 of(1, 8)=0"
                + " run(1)=1 of(1, 8)=1 of(1, 9)=1 event(3)=40 event(2)=9 event(1)=17 event(0)=25 of(0, 5)=2");
        // Not there, or of another kind: nothing happens.
        script.fresh("handler(0, 2, 5, 0, 1)=true step(0, 0, 4)=1 limit(0, 2, 1, 0)=true begin(1, 0)=1"
                + " call(0)=1 run(4)=4 of(0, 10)=1 desk(3)=0");
        script.fresh("handler(0, 2, 5, 0, 1)=true step(0, 0, 4)=1 limit(0, 2, 1, 0)=true"
                + " handler(1, 1, 6, 50, 1)=true begin(1, 0)=1 call(0)=1 run(4)=4 of(0, 10)=1 of(1, 8)=0");
        // Its own miss handler: each release that is late calls the next one.
        script.fresh("handler(0, 2, 5, 0, 1)=true step(0, 0, 2)=1 limit(0, 1, 0, 0)=true begin(1, 0)=1"
                + " call(0)=1 run(1)=1 of(0, 3)=1 run(1)=1 of(0, 10)=1 of(0, 8)=2 of(0, 3)=1 of(0, 7)=1");
        // While ending there are misses, but their handlers get no release.
        script.fresh("handler(0, 2, 5, 0, 1)=true step(0, 0, 4)=1 limit(0, 2, 1, 0)=true"
                + " handler(1, 2, 6, 0, 1)=true begin(1, 0)=1 call(0)=1 run(1)=1 stop()=true"
                + " run(9)=3 of(0, 10)=1 of(1, 8)=0 of(1, 11)=0 desk(0)=0");
    }
}
