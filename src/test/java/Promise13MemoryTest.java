public final class Promise13MemoryTest {
    public static void main(String[] args) {
        Script script = new Script("promise 13");
        script.about("REFUSED for another what, or if h is not there; NONE if it has none, or that has not BEGUN.");
        script.fresh("handler(0, 2, 1, 0, 1)=true step(0, 0, 2)=1 memory(0, 0)=NONE memory(0, -1)=REFUSED"
                + " memory(0, 6)=REFUSED memory(0, MAX)=REFUSED memory(0, MIN)=REFUSED memory(1, 0)=REFUSED"
                + " memory(-1, 0)=REFUSED memory(8, 0)=REFUSED memory(MAX, 0)=REFUSED memory(MIN, 6)=REFUSED"
                + " begin(1, 0)=1 memory(0, 5)=NONE call(0)=1 memory(0, 0)=NONE memory(0, 1)=NONE memory(0, 2)=NONE"
                + " memory(0, 3)=NONE memory(0, 6)=REFUSED run(1)=1 memory(0, 0)=1 memory(0, 1)=20 memory(0, 2)=0"
                + " memory(0, 3)=0 memory(0, 4)=NONE memory(0, 5)=NONE call(0)=2 run(1)=1 memory(0, 0)=NONE"
                + " memory(0, 5)=NONE");
        noneOfThem(script);
        areas(script);
        objects(script);
        locks(script);
        memoryFaults(script);
        leaving(script);
        pointing(script);
        nothingOfEarlierReleases(script);
        script.end();
    }

    private static void noneOfThem(Script script) {
        script.about("NONE if it has none, or that has not BEGUN.");
        for (int what = 0; what <= 5; what++) {
            String none = " memory(0, " + what + ")=NONE";
            script.fresh("handler(0, 2, 1, 0, 1)=true step(0, 2, 1)=1 step(0, 5, 0)=2 step(0, 0, 2)=3" + none + " begin(1, 9)=1" + none
                    + " call(0)=1" + none + " call(0)=2" + none + " run(2)=2" + none + " run(2)=2" + none + " stop()=true" + none);
            script.about("REFUSED for another what, or if h is not there");
            script.then("memory(1, " + what + ")=REFUSED memory(7, " + what + ")=REFUSED memory(8, " + what + ")=REFUSED"
                    + " memory(-1, " + what + ")=REFUSED memory(0, -1)=REFUSED memory(0, 6)=REFUSED");
        }
        script.about("4: the latest of these (NONE without one); 5: the size of the latest OBJECT that it made and that is there still (KEPT ones too; NONE).");
        script.fresh("handler(0, 2, 1, 0, 1)=true step(0, 0, 1)=1 step(0, 5, 3)=2 step(0, 3, 9)=3 step(0, 1, 4)=4 step(0, 0, 1)=5"
                + " step(0, 6, 3)=6 step(0, 4, 0)=7 step(0, 0, 1)=8 step(0, 2, 2)=9 step(0, 0, 2)=10 begin(1, 9)=1 call(0)=1 run(1)=1"
                + " memory(0, 3)=0 memory(0, 4)=NONE memory(0, 5)=NONE run(1)=1 memory(0, 3)=1 memory(0, 4)=3 memory(0, 5)=4 run(1)=1"
                + " memory(0, 3)=0 memory(0, 4)=NONE memory(0, 5)=NONE memory(0, 2)=0 run(1)=1 memory(0, 5)=2 memory(0, 2)=0");
    }

    private static void areas(Script script) {
        script.about("what 0: how many AREAS of its own it is in; 1: the room left in the CURRENT one");
        // 20: NEW 3, ENTER 10: 7 left outside; inside NEW 4, ENTER 6: 0 left; back, and back.
        script.fresh("handler(0, 2, 1, 0, 1)=true step(0, 1, 3)=1 step(0, 3, 10)=2 step(0, 1, 4)=3 step(0, 3, 6)=4"
                + " step(0, 1, 6)=5 step(0, 0, 1)=6 step(0, 4, 0)=7 step(0, 0, 1)=8 step(0, 4, 0)=9 step(0, 0, 2)=10"
                + " begin(1, 0)=1 call(0)=1 run(1)=1 memory(0, 0)=3 memory(0, 1)=0 memory(0, 2)=3 memory(0, 5)=6"
                + " run(1)=1 memory(0, 0)=2 memory(0, 1)=6 memory(0, 2)=2 memory(0, 5)=4"
                + " run(1)=1 memory(0, 0)=1 memory(0, 1)=17 memory(0, 2)=1 memory(0, 5)=3 desk(8)=3 run(1)=1 of(0, 9)=1");
        // The area of a release takes nothing of the mission's, and the next release has its own.
        script.fresh("handler(0, 2, 1, 0, 1)=true limit(0, 0, -1, 60)=true step(0, 1, 20)=1 step(0, 0, 2)=2 begin(1, 5)=1"
                + " call(0)=1 call(0)=2 run(1)=1 memory(0, 1)=40 desk(6)=5 run(2)=2 memory(0, 0)=1 memory(0, 1)=40"
                + " memory(0, 2)=1");
        // Ten areas inside the first one.
        script.fresh("handler(0, 2, 1, 0, 1)=true step(0, 3, 9)=1 step(0, 3, 8)=2 step(0, 3, 7)=3 step(0, 3, 6)=4"
                + " step(0, 3, 5)=5 step(0, 3, 4)=6 step(0, 3, 3)=7 step(0, 3, 2)=8 step(0, 3, 1)=9 step(0, 0, 2)=10"
                + " begin(1, 0)=1 call(0)=1 run(1)=1 memory(0, 0)=10 memory(0, 1)=1");
        script.fresh("handler(0, 2, 1, 0, 1)=true step(0, 3, 10)=1 step(0, 3, 10)=2 step(0, 3, 10)=3 step(0, 3, 10)=4"
                + " step(0, 3, 10)=5 step(0, 3, 10)=6 step(0, 3, 10)=7 step(0, 3, 10)=8 step(0, 3, 10)=9"
                + " step(0, 3, 10)=10 begin(1, 0)=1 call(0)=1 run(1)=1 of(0, 9)=1 of(0, 12)=0");
    }

    private static void objects(Script script) {
        script.about("2: how many OBJECTS are in all of these together");
        // Kept ones count for 5, but not for 2; they take of the mission's room and stay.
        script.fresh("handler(0, 2, 1, 0, 1)=true step(0, 1, 2)=1 step(0, 3, 9)=2 step(0, 2, 7)=3 step(0, 1, 5)=4"
                + " step(0, 0, 1)=5 step(0, 4, 0)=6 step(0, 0, 2)=7 begin(1, 10)=1 call(0)=1 run(1)=1 memory(0, 1)=4"
                + " memory(0, 2)=2 memory(0, 5)=5 desk(5)=1 desk(6)=3 run(1)=1 memory(0, 1)=18 memory(0, 2)=1"
                + " memory(0, 5)=7 desk(5)=1 run(1)=1 of(0, 9)=1 desk(5)=1 desk(6)=3 desk(8)=3");
        // A kept one that was made last stays the latest when the area with an earlier one is gone.
        script.fresh("handler(0, 2, 1, 0, 1)=true step(0, 1, 2)=1 step(0, 3, 9)=2 step(0, 1, 5)=3 step(0, 2, 7)=4"
                + " step(0, 4, 0)=5 step(0, 0, 2)=6 begin(1, 10)=1 call(0)=1 run(1)=1 memory(0, 2)=1 memory(0, 5)=7");
        objectsOfEarlierReleases(script);
    }

    private static void objectsOfEarlierReleases(Script script) {
        script.about("5: the size of the latest OBJECT that it made and that is there still (KEPT ones too; NONE).");
        // What an earlier release kept is not made by this one.
        script.fresh("handler(0, 2, 1, 0, 1)=true step(0, 2, 7)=1 step(0, 0, 1)=2 begin(1, 10)=1 call(0)=1 run(1)=1"
                + " call(0)=1 run(1)=1 of(0, 12)=1 desk(5)=1 desk(6)=3");
        script.fresh("handler(0, 2, 1, 0, 1)=true step(0, 0, 2)=1 step(0, 2, 1)=2 begin(1, 9)=1 call(0)=1 call(0)=2"
                + " run(3)=3 of(0, 9)=1 desk(5)=1 memory(0, 5)=NONE");
    }

    private static void locks(Script script) {
        script.about("3: how many locks it holds; 4: the latest of these (NONE without one)");
        script.fresh("handler(0, 2, 1, 0, 1)=true step(0, 5, 3)=1 step(0, 0, 1)=2 step(0, 5, 0)=3 step(0, 5, 1)=4"
                + " step(0, 5, 2)=5 step(0, 0, 1)=6 step(0, 6, 2)=7 step(0, 6, 1)=8 step(0, 0, 2)=9"
                + " begin(1, 10)=1 call(0)=1 run(1)=1 memory(0, 3)=1 memory(0, 4)=3 run(1)=1 memory(0, 3)=4 memory(0, 4)=2"
                + " run(1)=1 memory(0, 3)=2 memory(0, 4)=0");
    }

    private static void memoryFaults(Script script) {
        script.about("1 MEMORY, an OBJECT or AREA is greater than the room that the AREA has left");
        // As great as the room is fine, one more is not.
        script.fresh("handler(0, 2, 1, 0, 1)=true limit(0, 0, -1, 5)=true step(0, 1, 5)=1 step(0, 0, 1)=2 begin(1, 0)=1"
                + " call(0)=1 run(1)=1 of(0, 9)=1");
        script.fresh("handler(0, 2, 1, 0, 1)=true limit(0, 0, -1, 5)=true step(0, 1, 6)=1 step(0, 0, 1)=2 begin(1, 0)=1"
                + " call(0)=1 run(1)=1 of(0, 9)=0 of(0, 12)=1 desk(8)=0 event(0)=32 of(0, 3)=0 of(0, 15)=0");
        script.fresh("handler(0, 2, 1, 0, 1)=true limit(0, 0, -1, 5)=true step(0, 3, 5)=1 step(0, 1, 5)=2 step(0, 4, 0)=3"
                + " step(0, 1, 5)=4 step(0, 0, 1)=5 begin(1, 0)=1 call(0)=1 run(1)=1 of(0, 9)=1 desk(8)=2");
        script.fresh("handler(0, 2, 1, 0, 1)=true limit(0, 0, -1, 5)=true step(0, 3, 6)=1 begin(1, 90)=1"
                + " call(0)=1 run(1)=1 of(0, 12)=1");
        // The room inside is that of the current area alone.
        script.fresh("handler(0, 2, 1, 0, 1)=true step(0, 3, 2)=1 step(0, 1, 3)=2 begin(1, 90)=1 call(0)=1 run(1)=1"
                + " of(0, 12)=1");
        // Outside, the area inside has taken its room.
        script.fresh("handler(0, 2, 1, 0, 1)=true step(0, 3, 15)=1 step(0, 4, 0)=2 step(0, 1, 20)=3 begin(1, 90)=1"
                + " call(0)=1 run(1)=1 of(0, 9)=1");
        // KEEP looks at the mission's room, not at its own.
        script.fresh("handler(0, 2, 1, 0, 1)=true limit(0, 0, -1, 0)=true step(0, 2, 6)=1 begin(1, 12)=1 call(0)=1 call(0)=2"
                + " call(0)=3 run(1)=1 of(0, 9)=2 of(0, 12)=1 desk(5)=2 desk(6)=0 desk(8)=2");
    }

    private static void leaving(Script script) {
        script.about("2 SCOPE, LEAVE in the AREA that it got first");
        script.fresh("handler(0, 2, 1, 0, 1)=true step(0, 3, 2)=1 step(0, 4, 0)=2 step(0, 4, 0)=3 step(0, 0, 1)=4"
                + " begin(1, 0)=1 call(0)=1 run(1)=1 of(0, 13)=1 of(0, 9)=0 of(0, 15)=0 event(0)=32");
    }

    private static void pointing(Script script) {
        script.about("9 POINT a (0, 1)");
        point(script, "step(0, 9, 0)", 0, 1);
        point(script, "step(0, 1, 1) step(0, 9, 0)", 0, 1);
        point(script, "step(0, 1, 1) step(0, 1, 1) step(0, 9, 0) step(0, 9, 1)", 2, 0);
        // Inside out is fine, outside in is not.
        point(script, "step(0, 1, 1) step(0, 3, 5) step(0, 1, 1) step(0, 9, 0)", 1, 0);
        point(script, "step(0, 1, 1) step(0, 3, 5) step(0, 1, 1) step(0, 9, 1)", 0, 1);
        point(script, "step(0, 1, 1) step(0, 3, 5) step(0, 3, 4) step(0, 1, 1) step(0, 9, 0) step(0, 9, 1)", 1, 1);
        // An own one may point to a kept one, not the other way; two kept ones to each other.
        point(script, "step(0, 1, 1) step(0, 2, 1) step(0, 9, 1) step(0, 9, 0)", 1, 1);
        point(script, "step(0, 2, 1) step(0, 1, 1) step(0, 9, 0) step(0, 9, 1)", 1, 1);
        point(script, "step(0, 2, 1) step(0, 3, 5) step(0, 2, 1) step(0, 9, 0) step(0, 9, 1)", 2, 0);
        // Those of an area that is gone are gone; the kept one in between is there still.
        point(script, "step(0, 1, 1) step(0, 3, 5) step(0, 1, 1) step(0, 4, 0) step(0, 9, 0)", 0, 1);
        point(script, "step(0, 1, 1) step(0, 3, 5) step(0, 2, 1) step(0, 1, 1) step(0, 4, 0) step(0, 9, 1)", 1, 0);
        point(script, "step(0, 1, 1) step(0, 3, 5) step(0, 1, 1) step(0, 2, 1) step(0, 4, 0) step(0, 9, 1) step(0, 9, 0)",
                1, 1);
        point(script, "step(0, 1, 1) step(0, 3, 5) step(0, 1, 1) step(0, 4, 0) step(0, 3, 5) step(0, 1, 1)"
                + " step(0, 9, 0) step(0, 9, 1)", 1, 1);
        // Objects of another release do not count.
        script.fresh("handler(0, 2, 1, 0, 1)=true step(0, 2, 1)=1 step(0, 9, 0)=2 begin(1, 9)=1 call(0)=1 call(0)=2"
                + " run(1)=1 of(0, 13)=2 desk(5)=2 desk(7)=0");
    }

    /** Four are in line at most, so that the fifth one would find what the first one left. */
    private static void nothingOfEarlierReleases(Script script) {
        script.about("then all its AREAS are gone, and what it holds is free.");
        script.fresh("handler(0, 2, 1, 0, 1)=true step(0, 0, 1)=1 step(0, 1, 7)=2 step(0, 5, 1)=3 step(0, 3, 4)=4"
                + " step(0, 1, 2)=5 step(0, 0, 1)=6 begin(1, 0)=1");
        for (int n = 1; n <= 6; n++) {
            script.then("memory(0, 0)=NONE memory(0, 3)=NONE call(0)=1 memory(0, 0)=NONE memory(0, 5)=NONE of(0, 4)=0"
                    + " of(0, 6)=1 run(1)=1 memory(0, 0)=1 memory(0, 1)=20 memory(0, 2)=0 memory(0, 3)=0 memory(0, 4)=NONE"
                    + " memory(0, 5)=NONE run(1)=1 of(0, 9)=" + n);
        }
        script.then("stop()=true handler(0, 2, 1, 0, 1)=true step(0, 9, 0)=1 begin(1, 0)=2");
        for (int n = 1; n <= 4; n++) {
            script.then("call(0)=1 run(1)=1 of(0, 13)=" + n + " desk(7)=0");
        }
    }

    private static void point(Script script, String steps, int pointed, int faults) {
        script.fresh("handler(0, 2, 1, 0, 1)=true " + steps + " begin(1, 50)=1 call(0)=1 run(1)=1 desk(7)=" + pointed
                + " of(0, 13)=" + faults + " of(0, 12)=0 of(0, 9)=" + (1 - faults));
    }
}
