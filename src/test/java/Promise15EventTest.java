public final class Promise15EventTest {
    public static void main(String[] args) {
        Script script = new Script("promise 15");
        script.about("8 times the sort and the HANDLER of the k-th latest EVENT (0 the latest one); NONE if there is none, or it is not remembered.");
        script.fresh("event(0)=NONE event(-1)=NONE event(31)=NONE event(32)=NONE event(MAX)=NONE event(MIN)=NONE");
        edges(script);
        // Every sort: 1 came, 2 begun, 3 done.
        script.fresh("handler(5, 2, 1, 0, 1)=true begin(1, 0)=1 call(5)=1 event(0)=13 event(1)=NONE run(1)=1"
                + " event(0)=29 event(1)=21 event(2)=13 event(3)=NONE event(-1)=NONE event(MIN)=NONE event(MAX)=NONE");
        // 4 fault, without a 3.
        script.fresh("handler(6, 2, 1, 0, 1)=true step(6, 4, 0)=1 begin(1, 0)=1 call(6)=1 run(1)=1 event(0)=38 event(1)=22");
        // 5 miss, in the order in which the releases came, each with the call of its miss handler behind it.
        script.fresh("handler(0, 2, 9, 0, 1)=true step(0, 0, 5)=1 limit(0, 2, 3, 0)=true handler(1, 2, 1, 0, 1)=true"
                + " limit(1, 1, 3, 0)=true handler(3, 2, 1, 0, 1)=true begin(1, 0)=1 call(0)=1 run(1)=1 call(1)=1 call(0)=2"
                + " run(1)=1 event(0)=8 event(1)=9 run(1)=1 event(3)=40 event(2)=11 event(1)=41 event(0)=11 event(4)=8");
        script.fresh("handler(0, 2, 1, 0, 1)=true limit(0, 1, -1, 0)=true handler(1, 2, 9, 0, 1)=true step(1, 0, 3)=1"
                + " limit(1, 1, -1, 0)=true begin(1, 0)=1 call(1)=1 call(0)=1 call(1)=2 run(2)=2"
                + " event(2)=41 event(1)=40 event(0)=41");
        // 6 dropped, by a miss too.
        script.fresh("handler(2, 2, 9, 0, 1)=true step(2, 0, 9)=1 limit(2, 1, 2, 0)=true begin(1, 0)=1 call(2)=1 call(2)=2"
                + " call(2)=3 call(2)=4 call(2)=FULL event(0)=50 run(1)=1 event(0)=18 run(1)=1 event(0)=50 event(1)=42"
                + " event(6)=50 event(7)=42 event(8)=18 of(2, 11)=5 of(2, 10)=4");
        // 7 overrun, of handler 0, before the releases of its frame.
        script.fresh("handler(4, 2, 9, 0, 1)=true step(4, 0, 2)=1 frame(0, 1)=true place(0, 4)=1 begin(0, 0)=1 run(3)=3"
                + " event(0)=20 event(1)=12 event(2)=56 event(3)=28");
        theLatest32(script);
        staysOverMissions(script);
        script.end();
    }

    private static void edges(Script script) {
        script.about("NONE if there is none, or it is not remembered.");
        script.fresh("handler(0, 2, 1, 0, 1)=true step(0, 0, 1)=1 begin(1, 0)=1");
        for (int events = 0; events < 3; events++) {
            for (int k = 0; k < 4; k++) {
                script.then("event(" + k + ")=" + (k < events ? "8" : "NONE"));
            }
            script.then("event(-1)=NONE event(MIN)=NONE event(MAX)=NONE call(0)=" + (events + 1));
        }
        script.times(33, "call(0)");
        for (int k : new int[] {0, 1, 15, 30, 31}) {
            script.then("event(" + k + ")=48");
        }
        for (String k : new String[] {"MIN", "-32", "-1", "32", "33", "63", "64", "MAX"}) {
            script.then("event(" + k + ")=NONE");
        }
    }

    private static void theLatest32(Script script) {
        script.about("EVENTS are remembered, the latest 32");
        script.fresh("handler(1, 2, 1, 0, 1)=true handler(2, 2, 1, 0, 1)=true begin(1, 0)=1");
        for (int n = 0; n < 11; n++) {
            script.then("event(" + 3 * n + ")=NONE call(" + (n % 2 + 1) + ")=1 run(1)=1");
            script.then("event(0)=" + (25 + n % 2));
        }
        // 33 events: that one call's first one is not remembered any more.
        script.then("event(31)=17 event(32)=NONE event(33)=NONE event(30)=25 event(29)=10 call(2)=1 event(0)=10 event(31)=25"
                + " event(30)=10 event(32)=NONE");
    }

    private static void staysOverMissions(Script script) {
        script.about("EVENTS are remembered, the latest 32");
        script.fresh("handler(1, 2, 1, 0, 1)=true begin(1, 0)=1 call(1)=1 event(0)=9 stop()=true event(0)=9 event(1)=NONE"
                + " begin(1, 0)=2 event(0)=9 handler(1, 2, 1, 0, 1)=false event(0)=9");
    }
}
