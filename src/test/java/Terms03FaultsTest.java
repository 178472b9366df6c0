/** "Terms": the three FAULTS, each on both sides of its edge, and what a STEP with one leaves undone. */
public final class Terms03FaultsTest {
    public static void main(String[] args) {
        Script script = new Script("terms, faults");
        memoryOfAnObject(script);
        memoryOfAKeptObject(script);
        memoryOfAnArea(script);
        leaveInTheFirstArea(script);
        pointWithoutTwoObjects(script);
        pointFromAround(script);
        pointAmongKeptOnes(script);
        pointToWhatIsThereStill(script);
        lockHeldAlready(script);
        lockWithALowCeiling(script);
        unlockOfTheLatest(script);
        nothingButTheFault(script);
        severalHoldOneLock(script);
        script.end();
    }

    /** One release of handler 0 with this budget and body in one tick: how it ended. */
    private static void ends(Script script, int budget, int room, String body, int fault) {
        script.fresh("handler(0, 2, 5, 0, 1)=true limit(0, 0, -1, " + budget + ")=true");
        script.then(body);
        script.then("begin(1, " + room + ")=1 call(0)=1 run(1)=1 of(0, 3)=0 of(0, 9)=" + (fault == 0 ? 1 : 0));
        for (int each = 1; each <= 3; each++) {
            script.then("of(0, " + (11 + each) + ")=" + (fault == each ? 1 : 0));
        }
        script.then("event(0)=" + (fault == 0 ? 24 : 32) + " event(1)=16 event(2)=8 event(3)=NONE");
    }

    private static void memoryOfAnObject(Script script) {
        script.about("1 MEMORY, an OBJECT or AREA is greater than the room that the AREA has left");
        ends(script, 0, 100, "step(0, 1, 1)=1", 1);
        ends(script, 1, 0, "step(0, 1, 1)=1", 0);
        ends(script, 19, 100, "step(0, 1, 20)=1", 1);
        ends(script, 20, 0, "step(0, 1, 20)=1", 0);
        ends(script, 20, 0, "step(0, 1, 20)=1 step(0, 1, 1)=2", 1);
        ends(script, 60, 0, "step(0, 1, 20)=1 step(0, 1, 20)=2 step(0, 1, 20)=3", 0);
        ends(script, 60, 100, "step(0, 1, 20)=1 step(0, 1, 20)=2 step(0, 1, 20)=3 step(0, 1, 1)=4", 1);
        // The CURRENT AREA counts, whatever is left around it.
        ends(script, 60, 100, "step(0, 3, 4)=1 step(0, 1, 4)=2", 0);
        ends(script, 60, 100, "step(0, 3, 4)=1 step(0, 1, 5)=2", 1);
    }

    private static void memoryOfAKeptObject(Script script) {
        script.about("1 MEMORY, an OBJECT or AREA is greater than the room that the AREA has left");
        ends(script, 60, 0, "step(0, 2, 1)=1", 1);
        ends(script, 0, 1, "step(0, 2, 1)=1", 0);
        ends(script, 60, 19, "step(0, 2, 20)=1", 1);
        ends(script, 0, 20, "step(0, 2, 20)=1", 0);
        ends(script, 0, 100, "step(0, 2, 20)=1 step(0, 2, 20)=2 step(0, 2, 20)=3 step(0, 2, 20)=4 step(0, 2, 20)=5", 0);
        ends(script, 60, 100, "step(0, 2, 20)=1 step(0, 2, 20)=2 step(0, 2, 20)=3 step(0, 2, 20)=4 step(0, 2, 20)=5"
                + " step(0, 2, 1)=6", 1);
    }

    private static void memoryOfAnArea(Script script) {
        script.about("1 MEMORY, an OBJECT or AREA is greater than the room that the AREA has left");
        ends(script, 0, 100, "step(0, 3, 1)=1", 1);
        ends(script, 1, 0, "step(0, 3, 1)=1", 0);
        ends(script, 29, 100, "step(0, 3, 30)=1", 1);
        ends(script, 30, 0, "step(0, 3, 30)=1", 0);
        ends(script, 60, 0, "step(0, 3, 30)=1 step(0, 3, 30)=2 step(0, 3, 30)=3", 0);
        ends(script, 60, 0, "step(0, 3, 29)=1 step(0, 3, 30)=2", 1);
        ends(script, 10, 0, "step(0, 1, 4)=1 step(0, 3, 6)=2", 0);
        ends(script, 10, 0, "step(0, 1, 4)=1 step(0, 3, 7)=2", 1);
        // Ten AREAS, one inside the other, are as many as a BODY can make.
        ends(script, 1, 0, "step(0, 3, 1) step(0, 3, 1) step(0, 3, 1) step(0, 3, 1) step(0, 3, 1) step(0, 3, 1)"
                + " step(0, 3, 1) step(0, 3, 1) step(0, 3, 1) step(0, 3, 1)=10", 0);
    }

    private static void leaveInTheFirstArea(Script script) {
        script.about("2 SCOPE, LEAVE in the AREA that it got first");
        ends(script, 20, 0, "step(0, 4, 0)=1", 2);
        ends(script, 20, 0, "step(0, 3, 1)=1 step(0, 4, 0)=2", 0);
        ends(script, 20, 0, "step(0, 3, 1)=1 step(0, 4, 0)=2 step(0, 4, 0)=3", 2);
        ends(script, 20, 0, "step(0, 3, 2)=1 step(0, 3, 1)=2 step(0, 4, 0)=3 step(0, 4, 0)=4", 0);
        ends(script, 20, 0, "step(0, 3, 2)=1 step(0, 3, 1)=2 step(0, 4, 0)=3 step(0, 4, 0)=4 step(0, 4, 0)=5", 2);
    }

    private static void pointWithoutTwoObjects(Script script) {
        script.about("or POINT where there are not two OBJECTS");
        for (int way = 0; way <= 1; way++) {
            String point = "step(0, 9, " + way + ")";
            ends(script, 20, 20, point, 2);
            ends(script, 20, 20, "step(0, 1, 1) " + point, 2);
            ends(script, 20, 20, "step(0, 2, 1) " + point, 2);
            ends(script, 20, 20, "step(0, 1, 1) step(0, 1, 1) " + point, 0);
            ends(script, 20, 20, "step(0, 3, 9) step(0, 1, 1) step(0, 1, 1) step(0, 4, 0) " + point, 2);
            ends(script, 20, 20, "step(0, 1, 1) step(0, 3, 9) step(0, 1, 1) step(0, 4, 0) " + point, 2);
        }
    }

    private static void pointFromAround(Script script) {
        script.about("or the one that points lies in an AREA around that of the other one");
        ends(script, 20, 20, "step(0, 1, 1) step(0, 3, 9) step(0, 1, 1) step(0, 9, 0)", 0);
        ends(script, 20, 20, "step(0, 1, 1) step(0, 3, 9) step(0, 1, 1) step(0, 9, 1)", 2);
        ends(script, 20, 20, "step(0, 1, 1) step(0, 3, 9) step(0, 3, 8) step(0, 1, 1) step(0, 9, 0)", 0);
        ends(script, 20, 20, "step(0, 1, 1) step(0, 3, 9) step(0, 3, 8) step(0, 1, 1) step(0, 9, 1)", 2);
        ends(script, 20, 20, "step(0, 3, 9) step(0, 1, 1) step(0, 1, 1) step(0, 9, 0) step(0, 9, 1)", 0);
        // The AREA in which the RELEASE is now does not count.
        ends(script, 20, 20, "step(0, 1, 1) step(0, 1, 1) step(0, 3, 9) step(0, 9, 0) step(0, 9, 1)", 0);
    }

    private static void pointAmongKeptOnes(Script script) {
        script.about("(Two KEPT ones may point to each other; an OBJECT of its own may point to a KEPT one.)");
        ends(script, 20, 20, "step(0, 2, 1) step(0, 2, 1) step(0, 9, 0) step(0, 9, 1)", 0);
        ends(script, 20, 20, "step(0, 2, 1) step(0, 3, 9) step(0, 2, 1) step(0, 9, 0) step(0, 9, 1)", 0);
        ends(script, 20, 20, "step(0, 2, 1) step(0, 1, 1) step(0, 9, 0)", 0);
        ends(script, 20, 20, "step(0, 2, 1) step(0, 1, 1) step(0, 9, 1)", 2);
        ends(script, 20, 20, "step(0, 1, 1) step(0, 2, 1) step(0, 9, 1)", 0);
        ends(script, 20, 20, "step(0, 1, 1) step(0, 2, 1) step(0, 9, 0)", 2);
    }

    private static void pointToWhatIsThereStill(Script script) {
        script.about("of the two latest OBJECTS that this RELEASE made and that are there still, the latest points to the other one (a 0), or the other one to the latest (a 1).");
        // The one that went with its AREA lay between them.
        ends(script, 20, 20, "step(0, 2, 1) step(0, 3, 9) step(0, 1, 1) step(0, 4, 0) step(0, 1, 1) step(0, 9, 0)", 0);
        ends(script, 20, 20, "step(0, 2, 1) step(0, 3, 9) step(0, 1, 1) step(0, 4, 0) step(0, 1, 1) step(0, 9, 1)", 2);
        // A KEPT one that was made in the AREA is there still.
        ends(script, 20, 20, "step(0, 1, 1) step(0, 3, 9) step(0, 2, 1) step(0, 4, 0) step(0, 9, 1)", 0);
        ends(script, 20, 20, "step(0, 1, 1) step(0, 3, 9) step(0, 2, 1) step(0, 4, 0) step(0, 9, 0)", 2);
        // Just the two latest: an earlier one does not help.
        ends(script, 20, 20, "step(0, 2, 1) step(0, 1, 1) step(0, 2, 1) step(0, 9, 0)", 2);
        ends(script, 20, 20, "step(0, 1, 1) step(0, 2, 1) step(0, 2, 1) step(0, 9, 0) step(0, 9, 1)", 0);
        // What another RELEASE KEPT is there, but this one did not make it.
        script.fresh("handler(0, 2, 5, 0, 1)=true step(0, 2, 1)=1 handler(1, 2, 5, 0, 1)=true step(1, 2, 1)=1 step(1, 9, 0)=2"
                + " begin(1, 9)=1 call(0)=1 call(1)=1 run(1)=1 desk(5)=2 of(1, 13)=1 desk(7)=0");
    }

    private static void lockHeldAlready(Script script) {
        script.about("3 LOCK, LOCK of one that it holds already");
        for (int m = 0; m <= 3; m++) {
            String lock = "step(0, 5, " + m + ")";
            ends(script, 20, 0, lock, 0);
            ends(script, 20, 0, lock + " " + lock, 3);
            ends(script, 20, 0, lock + " step(0, 5, " + (m + 1 & 3) + ") " + lock, 3);
            ends(script, 20, 0, lock + " step(0, 6, " + m + ") " + lock, 0);
        }
        ends(script, 20, 0, "step(0, 5, 0) step(0, 5, 1) step(0, 5, 2) step(0, 5, 3)", 0);
        ends(script, 20, 0, "step(0, 5, 0) step(0, 5, 1) step(0, 5, 2) step(0, 5, 3) step(0, 5, 2)", 3);
    }

    private static void lockWithALowCeiling(Script script) {
        script.about("or that has a CEILING less than its HANDLER's PRIORITY");
        for (int priority = 1; priority <= 9; priority++) {
            for (int ceiling = 1; ceiling <= 9; ceiling++) {
                int fault = ceiling < priority ? 1 : 0;
                script.fresh("handler(0, 2, " + priority + ", 0, 1)=true step(0, 5, 2)=1 ceiling(2, " + ceiling + ")=true"
                        + " begin(1, 0)=1 call(0)=1 run(1)=1 of(0, 14)=" + fault + " of(0, 9)=" + (1 - fault));
            }
        }
        // The ACTIVE PRIORITY does not count: lock 0 lifts to 9, lock 1 has just 5.
        script.fresh("handler(0, 2, 5, 0, 1)=true step(0, 5, 0)=1 step(0, 5, 1)=2 ceiling(1, 5)=true begin(1, 0)=1 call(0)=1"
                + " run(1)=1 of(0, 14)=0 of(0, 9)=1");
        // By LEVEL 0 too.
        script.fresh("handler(0, 2, 5, 0, 1)=true step(0, 5, 1)=1 ceiling(1, 4)=true frame(0, 9)=true place(0, 0)=1"
                + " begin(0, 0)=1 run(1)=1 of(0, 14)=1");
    }

    private static void unlockOfTheLatest(Script script) {
        script.about("or UNLOCK of one that is not the latest of those that it holds.");
        ends(script, 20, 0, "step(0, 6, 0)", 3);
        ends(script, 20, 0, "step(0, 5, 0) step(0, 6, 1)", 3);
        ends(script, 20, 0, "step(0, 5, 0) step(0, 5, 1) step(0, 6, 0)", 3);
        ends(script, 20, 0, "step(0, 5, 0) step(0, 5, 1) step(0, 6, 1) step(0, 6, 0)", 0);
        ends(script, 20, 0, "step(0, 5, 0) step(0, 5, 1) step(0, 6, 1) step(0, 6, 1)", 3);
        ends(script, 20, 0, "step(0, 5, 3) step(0, 6, 3) step(0, 6, 3)", 3);
        ends(script, 20, 0, "step(0, 5, 3) step(0, 5, 2) step(0, 5, 1) step(0, 5, 0) step(0, 6, 0) step(0, 6, 1)"
                + " step(0, 6, 2) step(0, 6, 3)", 0);
    }

    private static void nothingButTheFault(Script script) {
        script.about("A STEP with a FAULT does nothing but that.");
        script.fresh("handler(0, 2, 5, 0, 1)=true limit(0, 0, -1, 3)=true step(0, 1, 4)=1 begin(1, 9)=1 call(0)=1 run(1)=1"
                + " desk(8)=0 desk(5)=0 desk(6)=9 of(0, 12)=1");
        script.fresh("handler(0, 2, 5, 0, 1)=true step(0, 2, 10)=1 begin(1, 9)=1 call(0)=1 run(1)=1 desk(8)=0 desk(5)=0"
                + " desk(6)=9 of(0, 12)=1");
        script.fresh("handler(0, 2, 5, 0, 1)=true step(0, 2, 1)=1 step(0, 1, 1)=2 step(0, 9, 1)=3 begin(1, 9)=1 call(0)=1"
                + " run(1)=1 desk(7)=0 desk(8)=2 of(0, 13)=1");
        // The STEPS behind it are not done, and it is not done without a FAULT.
        script.fresh("handler(0, 2, 5, 0, 1)=true step(0, 6, 0)=1 step(0, 2, 1)=2 step(0, 8, 0)=3 step(0, 0, 1)=4"
                + " begin(1, 9)=1 call(0)=1 run(1)=1 desk(0)=1 desk(8)=0 of(0, 15)=0 of(0, 9)=0 of(0, 14)=1 desk(13)=1");
    }

    /** The ceilings let no run come so far; what a lock that another one holds answers hangs on its CEILING alone. */
    private static void severalHoldOneLock(Script script) {
        script.about("(Several RELEASES may hold one lock.)");
        script.fresh("handler(0, 2, 1, 0, 1)=true step(0, 5, 0)=1 step(0, 0, 3)=2 handler(1, 2, 5, 0, 1)=true step(1, 5, 0)=1"
                + " step(1, 0, 2)=2 ceiling(0, 5)=true begin(1, 0)=1 call(0)=1 run(1)=1 memory(0, 4)=0 call(1)=1 run(1)=1"
                + " memory(1, 0)=NONE run(2)=2 of(0, 9)=1 memory(1, 4)=0 of(1, 14)=0");
        script.fresh("handler(0, 2, 1, 0, 1)=true step(0, 5, 0)=1 step(0, 0, 3)=2 handler(1, 2, 6, 0, 1)=true step(1, 5, 0)=1"
                + " ceiling(0, 5)=true begin(1, 0)=1 call(0)=1 run(1)=1 call(1)=1 run(1)=1 of(1, 14)=1 memory(0, 3)=1"
                + " memory(0, 4)=0");
        // Two that have BEGUN hold a lock each; what one frees is its own.
        script.fresh("handler(0, 2, 1, 0, 1)=true step(0, 5, 0)=1 step(0, 0, 3)=2 handler(1, 2, 6, 0, 1)=true step(1, 5, 1)=1"
                + " step(1, 0, 1)=2 step(1, 6, 1)=3 step(1, 0, 2)=4 ceiling(0, 5)=true begin(1, 0)=1 call(0)=1 run(1)=1"
                + " call(1)=1 run(1)=1 memory(0, 4)=0 memory(1, 4)=1 run(1)=1 memory(0, 4)=0 memory(1, 4)=NONE run(1)=1"
                + " of(1, 9)=1 memory(0, 3)=1");
    }
}
