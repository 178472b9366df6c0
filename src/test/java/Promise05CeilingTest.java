public final class Promise05CeilingTest {
    public static void main(String[] args) {
        Script script = new Script("promise 5");
        script.about("Lock m (0 to 3) has this CEILING (1 to 9): true; false, changing nothing, if a number is not as said, or the desk is not in SETUP.");
        script.fresh("ceiling(0, 1)=true ceiling(3, 9)=true ceiling(2, 5)=true"
                + " ceiling(-1, 1)=false ceiling(4, 1)=false ceiling(MAX, 1)=false ceiling(MIN, 1)=false"
                + " ceiling(0, 0)=false ceiling(0, 10)=false ceiling(0, MAX)=false ceiling(0, MIN)=false"
                + " begin(1, 0)=1 ceiling(0, 1)=false stop()=true ceiling(0, 1)=true");
        edges(script);
        changesNothing(script);
        ceilingsOfTheirOwn(script);
        faults(script);
        staysForLaterMissions(script);
        script.end();
    }

    private static void edges(Script script) {
        script.about("Lock m (0 to 3) has this CEILING (1 to 9): true");
        for (int m = 0; m <= 3; m++) {
            for (int ceiling = 1; ceiling <= 9; ceiling++) {
                script.fresh("ceiling(" + m + ", " + ceiling + ")=true ceiling(" + m + ", 0)=false ceiling(" + m + ", 10)=false"
                        + " handler(0, 2, 1, 0, 1)=true step(0, 5, " + m + ")=1 step(0, 0, 2)=2 begin(1, 0)=1 call(0)=1 run(1)=1"
                        + " of(0, 6)=" + ceiling);
            }
        }
        script.about("false, changing nothing, if a number is not as said, or the desk is not in SETUP.");
        script.fresh("handler(0, 2, 1, 0, 1)=true step(0, 5, 0)=1 step(0, 0, 2)=2 begin(1, 0)=1 ceiling(0, 5)=false call(0)=1 run(1)=1"
                + " of(0, 6)=9 ceiling(0, 5)=false of(0, 6)=9 stop()=true desk(0)=2 ceiling(0, 5)=false of(0, 6)=9 run(1)=1"
                + " ceiling(0, 5)=true begin(1, 0)=2 call(0)=1 run(1)=1 of(0, 6)=5");
    }

    private static void changesNothing(Script script) {
        script.fresh("handler(0, 2, 2, 0, 1)=true step(0, 5, 1)=1 step(0, 0, 3)=2 ceiling(1, 6)=true"
                + " ceiling(1, 10)=false ceiling(1, 0)=false begin(1, 0)=1 ceiling(1, 8)=false call(0)=1"
                + " run(1)=1 of(0, 6)=6 stop()=true desk(0)=2 ceiling(1, 8)=false of(0, 6)=6 run(9)=2");
    }

    private static void ceilingsOfTheirOwn(Script script) {
        script.fresh("ceiling(0, 3)=true ceiling(1, 6)=true ceiling(2, 4)=true"
                + " handler(0, 2, 2, 0, 1)=true step(0, 5, 0)=1 step(0, 0, 1)=2 step(0, 5, 1)=3 step(0, 0, 1)=4"
                + " step(0, 5, 2)=5 step(0, 0, 1)=6 step(0, 6, 2)=7 step(0, 6, 1)=8 step(0, 0, 1)=9"
                + " step(0, 0, 1)=10 begin(1, 0)=1 call(0)=1 of(0, 6)=2 run(1)=1 of(0, 6)=3 run(1)=1 of(0, 6)=6"
                + " run(1)=1 of(0, 6)=6 run(1)=1 of(0, 6)=3 memory(0, 3)=1");
    }

    private static void faults(Script script) {
        script.about("3 LOCK, LOCK of one that it holds already, or that has a CEILING less than its HANDLER's PRIORITY, or UNLOCK of one that is not the latest of those that it holds.");
        // A ceiling equal to the priority is enough, a lower one is not.
        script.fresh("handler(0, 2, 5, 0, 1)=true step(0, 5, 0)=1 step(0, 0, 1)=2 ceiling(0, 5)=true"
                + " begin(1, 0)=1 call(0)=1 run(1)=1 of(0, 9)=1 of(0, 14)=0");
        script.fresh("handler(0, 2, 5, 0, 1)=true step(0, 5, 0)=1 step(0, 0, 1)=2 ceiling(0, 4)=true"
                + " begin(1, 0)=1 call(0)=1 run(1)=1 of(0, 9)=0 of(0, 14)=1 event(0)=32 of(0, 15)=0");
        // The handler's own priority is looked at, not the active one.
        script.fresh("handler(0, 2, 5, 0, 1)=true step(0, 5, 0)=1 step(0, 5, 1)=2 step(0, 0, 1)=3"
                + " ceiling(0, 9)=true ceiling(1, 5)=true begin(1, 0)=1 call(0)=1 run(1)=1 of(0, 14)=0 of(0, 9)=1");
        // Held already; not the latest; not held at all.
        script.fresh("handler(0, 2, 5, 0, 1)=true step(0, 5, 0)=1 step(0, 5, 0)=2 begin(1, 0)=1 call(0)=1"
                + " run(1)=1 of(0, 14)=1");
        script.fresh("handler(0, 2, 5, 0, 1)=true step(0, 5, 0)=1 step(0, 5, 1)=2 step(0, 6, 0)=3 begin(1, 0)=1"
                + " call(0)=1 run(1)=1 of(0, 14)=1");
        script.fresh("handler(0, 2, 5, 0, 1)=true step(0, 6, 0)=1 begin(1, 0)=1 call(0)=1 run(1)=1 of(0, 14)=1");
        // Given back it can be held again; another release may hold it at the same time.
        script.fresh("handler(0, 2, 5, 0, 1)=true step(0, 5, 0)=1 step(0, 6, 0)=2 step(0, 5, 0)=3 step(0, 0, 2)=4"
                + " handler(1, 2, 9, 0, 1)=true step(1, 5, 0)=1 step(1, 0, 1)=2 begin(0, 0)=NONE begin(1, 0)=1"
                + " call(0)=1 run(1)=1 call(1)=1 run(1)=1 of(0, 9)=1 run(1)=1 of(1, 9)=1 of(0, 14)=0 of(1, 14)=0");
        // What a release with a fault held is not held by the next one.
        script.fresh("handler(0, 2, 5, 0, 1)=true step(0, 5, 0)=1 step(0, 0, 1)=2 step(0, 5, 0)=3 begin(1, 0)=1"
                + " call(0)=1 call(0)=2 call(0)=3 call(0)=4 run(1)=1 call(0)=FULL run(4)=4 of(0, 14)=4 call(0)=1"
                + " of(0, 6)=5 run(1)=1 memory(0, 3)=1");
    }

    private static void staysForLaterMissions(Script script) {
        script.about("What is laid down in SETUP stays for all MISSIONS.");
        script.fresh("handler(0, 2, 1, 0, 1)=true step(0, 5, 2)=1 step(0, 0, 2)=2 ceiling(2, 7)=true begin(1, 0)=1"
                + " stop()=true begin(1, 0)=2 call(0)=1 run(1)=1 of(0, 6)=7");
    }
}
