/** "Terms": the EVENTS, and how many of them are remembered. */
public final class Terms08EventsTest {
    public static void main(String[] args) {
        Script script = new Script("terms, events");
        remembered(script);
        roundAndRound(script);
        sorts(script);
        eachWithItsHandler(script);
        script.end();
    }

    private static void remembered(Script script) {
        script.about("EVENTS are remembered, the latest 32");
        // Each call is one EVENT: 9 for handler 1 that came, 49 for one that was DROPPED.
        script.fresh("handler(1, 2, 1, 0, 1)=true begin(1, 0)=1 event(0)=NONE call(1)=1 event(0)=9 event(1)=NONE call(1)=2"
                + " call(1)=3 call(1)=4 event(3)=9 event(4)=NONE");
        for (int events = 5; events <= 40; events++) {
            script.then("call(1)=FULL event(0)=49");
            int oldest = Math.min(events, 32) - 1;
            int before = events - 1 - oldest;
            script.then("event(" + oldest + ")=" + (before < 4 ? 9 : 49));
            script.then("event(" + (oldest + 1) + ")=NONE event(32)=NONE");
        }
    }

    private static void roundAndRound(Script script) {
        script.about("EVENTS are remembered, the latest 32");
        // A TICK with 40 RELEASES has 120 EVENTS: 1, 2 and 3 in turn.
        script.fresh("handler(6, 2, 5, 0, 1)=true step(6, 7, 6)=1 begin(1, 0)=1 call(6)=1");
        for (int n = 0; n < 3; n++) {
            script.then("run(1)=1");
            for (int k = 0; k < 32; k++) {
                // Behind the tick: ... came, done, begun, came, done.
                int sort = k % 3 == 0 ? 3 : k % 3 == 1 ? 1 : 2;
                script.then("event(" + k + ")=" + (8 * sort + 6));
            }
            script.then("event(32)=NONE event(33)=NONE event(64)=NONE event(119)=NONE");
        }
    }

    private static void sorts(Script script) {
        script.about("1 a RELEASE came, 2 it has BEGUN, 3 it is done (not by a FAULT), 4 it had a FAULT, 5 it was a MISS, 6 it was DROPPED, 7 an OVERRUN (HANDLER 0), each with its HANDLER.");
        script.fresh("handler(3, 2, 1, 0, 1)=true begin(1, 0)=1 call(3)=1 event(0)=11 run(1)=1 event(1)=19 event(0)=27 event(2)=11"
                + " event(3)=NONE");
        script.fresh("handler(3, 2, 1, 0, 1)=true step(3, 4, 0)=1 begin(1, 0)=1 call(3)=1 run(1)=1 event(0)=35 event(1)=19"
                + " event(2)=11 event(3)=NONE");
        script.fresh("handler(3, 2, 1, 0, 1)=true step(3, 0, 3)=1 limit(3, 1, -1, 0)=true begin(1, 0)=1 call(3)=1 run(2)=2"
                + " event(0)=43 event(1)=19 event(2)=11 event(3)=NONE");
        script.fresh("handler(3, 2, 1, 0, 1)=true step(3, 0, 3)=1 begin(1, 0)=1 call(3)=1 call(3)=2 call(3)=3 call(3)=4 call(3)=FULL"
                + " event(0)=51 event(1)=11 event(4)=11 event(5)=NONE");
        script.fresh("handler(3, 2, 1, 0, 1)=true step(3, 0, 2)=1 frame(2, 1)=true place(2, 3)=1 begin(0, 0)=1 run(3)=3 event(2)=56"
                + " event(1)=11 event(0)=19 event(3)=27");
        // Those that are gone because the MISSION ended are no EVENT, nor is the end.
        script.fresh("handler(3, 2, 1, 0, 1)=true begin(1, 0)=1 call(3)=1 stop()=true event(0)=11 event(1)=NONE begin(1, 0)=2 run(1)=1"
                + " event(0)=11 event(1)=NONE");
    }

    private static void eachWithItsHandler(Script script) {
        script.about("each with its HANDLER.");
        for (int h = 0; h <= 7; h++) {
            script.fresh("handler(" + h + ", 2, 1, 0, 1)=true step(" + h + ", 0, 3)=1 step(" + h + ", 4, 0)=2"
                    + " limit(" + h + ", 2, -1, 0)=true begin(1, 0)=1 call(" + h + ")=1 run(4)=4 event(3)=" + (8 + h)
                    + " event(2)=" + (16 + h) + " event(1)=" + (40 + h) + " event(0)=" + (32 + h));
        }
    }
}
