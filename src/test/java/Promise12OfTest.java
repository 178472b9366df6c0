public final class Promise12OfTest {
    public static void main(String[] args) {
        Script script = new Script("promise 12");
        script.about("REFUSED if it is not there (it may have been another one before: what is counted for the number stays), or for another what.");
        script.fresh("handler(4, 1, 6, 0, 1)=true of(4, -1)=REFUSED of(4, 16)=REFUSED of(4, MAX)=REFUSED"
                + " of(4, MIN)=REFUSED of(3, 0)=REFUSED of(-1, 0)=REFUSED of(8, 0)=REFUSED of(MAX, 8)=REFUSED"
                + " of(MIN, 8)=REFUSED of(8, 16)=REFUSED of(4, 0)=1 of(4, 1)=6 of(4, 2)=0 of(4, 3)=0 of(4, 4)=NONE"
                + " of(4, 5)=NONE of(4, 6)=NONE of(4, 7)=NONE of(4, 8)=0 of(4, 9)=0 of(4, 10)=0 of(4, 11)=0"
                + " of(4, 12)=0 of(4, 13)=0 of(4, 14)=0 of(4, 15)=0");
        script.about("Of HANDLER h what 0: its KIND, 1: PRIORITY, 2: how many STEPS; 3: how many RELEASES it has that are not done");
        script.fresh("handler(0, 2, 9, 0, 1)=true of(0, 0)=2 of(0, 1)=9 of(0, 2)=0 of(0, 3)=0 step(0, 0, 9)=1 of(0, 2)=1 begin(1, 0)=1"
                + " call(0)=1 call(0)=2 call(0)=3 call(0)=4 of(0, 3)=4 call(0)=FULL of(0, 3)=4 run(9)=9 of(0, 3)=3 stop()=true of(0, 3)=0");
        noneOfTheFirst(script);
        notCounted(script);
        anotherOneBefore(script);
        theFirstRelease(script);
        counts(script);
        script.end();
    }

    private static void noneOfTheFirst(Script script) {
        script.about("(4 to 7: NONE if there is none)");
        String none = " of(0, 3)=0 of(0, 4)=NONE of(0, 5)=NONE of(0, 6)=NONE of(0, 7)=NONE";
        String there = " of(0, 3)=1 of(0, 4)=0 of(0, 5)=0 of(0, 6)=9 of(0, 7)=0";
        script.fresh("handler(0, 2, 9, 0, 1)=true" + none + " begin(1, 0)=1" + none + " call(0)=1" + there + " run(1)=1" + none
                + " call(0)=1 stop()=true" + none);
        script.about("4: the number of its next STEP, 5: how many TICKS of that were done");
        script.fresh("handler(0, 2, 9, 0, 1)=true step(0, 0, 20)=1 begin(1, 0)=1 call(0)=1 of(0, 5)=0 run(19)=19 of(0, 4)=0"
                + " of(0, 5)=19 run(1)=1 of(0, 4)=NONE of(0, 5)=NONE");
    }

    private static void notCounted(Script script) {
        script.about("8: RELEASES that came (not DROPPED ones)");
        script.fresh("handler(0, 2, 9, 0, 1)=true begin(1, 0)=1 call(0)=1 call(0)=2 call(0)=3 call(0)=4 call(0)=FULL of(0, 8)=4"
                + " of(0, 11)=1");
        script.about("9: done without a FAULT");
        script.fresh("handler(0, 2, 9, 0, 1)=true step(0, 4, 0)=1 begin(1, 0)=1 call(0)=1 run(1)=1 of(0, 9)=0 of(0, 8)=1 of(0, 13)=1");
        script.about("15: TICKS of work.");
        script.fresh("handler(0, 2, 9, 0, 1)=true step(0, 1, 1)=1 begin(1, 0)=1 call(0)=1 run(1)=1 of(0, 15)=0");
    }

    private static void anotherOneBefore(Script script) {
        script.about("REFUSED if it is not there (it may have been another one before: what is counted for the number stays)");
        script.fresh("handler(3, 2, 9, 0, 1)=true step(3, 0, 1)=1 begin(1, 0)=1 call(3)=1 run(1)=1 stop()=true of(3, 8)=1 of(3, 9)=1"
                + " of(3, 15)=1 handler(3, 0, 2, 5, 5)=true of(3, 0)=0 of(3, 1)=2 of(3, 2)=0 of(3, 8)=1 of(3, 9)=1 of(3, 15)=1"
                + " begin(1, 0)=2 run(6)=6 of(3, 8)=2 of(3, 9)=2 of(3, 15)=1");
        for (int h = 0; h <= 7; h++) {
            script.fresh("of(" + h + ", 0)=REFUSED of(" + h + ", 8)=REFUSED of(" + h + ", 15)=REFUSED handler(" + h + ", 2, 1, 0, 1)=true"
                    + " of(" + h + ", 0)=2 of(" + h + ", 15)=0 of(" + h + ", -1)=REFUSED of(" + h + ", 16)=REFUSED");
        }
    }

    private static void theFirstRelease(Script script) {
        script.about("of the first of these 4: the number of its next STEP, 5: how many TICKS of that were done, 6: its ACTIVE PRIORITY, 7: the TIME at which it came (4 to 7: NONE if there is none)");
        script.fresh("ceiling(2, 7)=true handler(0, 2, 3, 0, 1)=true step(0, 0, 2)=1 step(0, 5, 2)=2 step(0, 0, 3)=3"
                + " begin(1, 0)=1 run(2)=2 call(0)=1 of(0, 4)=0 of(0, 5)=0 of(0, 6)=3 of(0, 7)=2"
                + " run(1)=1 call(0)=2 of(0, 3)=2 of(0, 4)=0 of(0, 5)=1 of(0, 6)=3 of(0, 7)=2"
                + " run(1)=1 of(0, 4)=1 of(0, 5)=0 of(0, 6)=3 run(1)=1 of(0, 4)=2 of(0, 5)=1 of(0, 6)=7"
                + " run(1)=1 of(0, 5)=2 run(1)=1 of(0, 3)=1 of(0, 4)=0 of(0, 5)=0 of(0, 6)=3 of(0, 7)=3"
                + " of(0, 9)=1 of(0, 15)=5 stop()=true of(0, 3)=0 of(0, 4)=NONE of(0, 7)=NONE");
    }

    private static void counts(Script script) {
        script.about("so far, for all MISSIONS: 8: RELEASES that came (not DROPPED ones), 9: done without a FAULT, 10: MISSES, 11: DROPPED, 12: with FAULT 1, 13: 2, 14: 3; 15: TICKS of work.");
        // Handler 0 has fault 1, handler 1 fault 2, handler 2 fault 3, handler 3 none.
        script.fresh("handler(0, 2, 1, 0, 1)=true limit(0, 0, -1, 4)=true step(0, 0, 1)=1 step(0, 1, 5)=2 step(0, 0, 1)=3"
                + " handler(1, 2, 1, 0, 1)=true step(1, 4, 0)=1 step(1, 0, 1)=2"
                + " handler(2, 2, 1, 0, 1)=true step(2, 6, 0)=1 step(2, 0, 1)=2"
                + " handler(3, 2, 1, 0, 1)=true step(3, 0, 2)=1"
                + " begin(1, 0)=1 call(0)=1 call(1)=1 call(2)=1 call(3)=1 run(10)=10"
                + " of(0, 8)=1 of(0, 9)=0 of(0, 12)=1 of(0, 13)=0 of(0, 14)=0 of(0, 15)=1"
                + " of(1, 8)=1 of(1, 9)=0 of(1, 12)=0 of(1, 13)=1 of(1, 14)=0 of(1, 15)=0"
                + " of(2, 8)=1 of(2, 9)=0 of(2, 12)=0 of(2, 13)=0 of(2, 14)=1 of(2, 15)=0"
                + " of(3, 8)=1 of(3, 9)=1 of(3, 12)=0 of(3, 13)=0 of(3, 14)=0 of(3, 15)=2"
                + " stop()=true begin(1, 0)=2 call(3)=1 call(0)=1 run(10)=10 of(3, 9)=2 of(3, 15)=4 of(0, 12)=2"
                + " of(1, 13)=1");
        // What is counted for the number stays when another handler takes it.
        script.then("stop()=true handler(0, 0, 9, 50, 50)=true of(0, 12)=2 of(0, 8)=2 of(0, 15)=2 of(0, 0)=0 of(0, 2)=0");
    }
}
