/** "Terms": how a MISSION ends. */
public final class Terms07EndTest {
    public static void main(String[] args) {
        Script script = new Script("terms, the end");
        notBegunAreGone(script);
        noMoreCome(script);
        overAsSoonAsAllAreDone(script);
        theAreaIsEmpty(script);
        withinATick(script);
        again(script);
        script.end();
    }

    private static void notBegunAreGone(Script script) {
        script.about("When the MISSION is told to end the desk is ENDING: RELEASES that have not BEGUN are gone (they are not done, nor DROPPED)");
        // Of four in a line the first one has BEGUN; of another HANDLER none.
        script.fresh("handler(0, 2, 2, 0, 1)=true step(0, 0, 3)=1 handler(1, 2, 1, 0, 1)=true begin(1, 0)=1 call(0)=1 call(0)=2"
                + " call(0)=3 call(0)=4 call(1)=1 run(1)=1 stop()=true desk(0)=2 desk(3)=1 desk(12)=4 of(0, 3)=1 of(1, 3)=0"
                + " of(0, 9)=0 of(1, 9)=0 of(0, 11)=0 of(1, 11)=0 of(0, 8)=4 of(1, 8)=1 event(0)=16 run(9)=2 of(0, 9)=1"
                + " desk(12)=4");
        // The next one had not BEGUN, even if the one before it is done.
        script.fresh("handler(0, 2, 2, 0, 1)=true step(0, 0, 1)=1 begin(1, 0)=1 call(0)=1 call(0)=2 run(1)=1 of(0, 9)=1 stop()=true"
                + " desk(0)=0 desk(12)=1 of(0, 9)=1");
        // One that was BEGUN and is not chosen now is not gone.
        script.fresh("handler(0, 2, 1, 0, 1)=true step(0, 0, 2)=1 handler(1, 2, 2, 0, 1)=true step(1, 0, 2)=1 begin(1, 0)=1"
                + " call(0)=1 run(1)=1 call(1)=1 run(1)=1 stop()=true desk(3)=2 desk(12)=0 run(9)=2 of(0, 9)=1 of(1, 9)=1");
        // By a STEP: those that it called itself are gone as well, it is not.
        script.fresh("handler(0, 2, 2, 0, 1)=true step(0, 7, 0)=1 step(0, 7, 1)=2 step(0, 8, 0)=3 step(0, 0, 1)=4"
                + " handler(1, 2, 1, 0, 1)=true begin(1, 0)=1 call(0)=1 run(9)=1 desk(12)=2 of(0, 9)=1 of(1, 9)=0 desk(0)=0");
    }

    private static void noMoreCome(Script script) {
        script.about("no more come.");
        String goesOn = " step(0, 0, 5)=1 ";
        script.fresh("handler(0, 0, 1, 0, 1)=true" + goesOn + "handler(1, 1, 1, 2, 1)=true begin(1, 0)=1 run(1)=1 stop()=true"
                + " run(9)=4 of(0, 8)=1 of(1, 8)=0 of(0, 11)=0 desk(12)=0");
        script.fresh("handler(0, 0, 1, 0, 1)=true" + goesOn + "frame(0, 1)=true place(0, 0)=1 frame(1, 1)=true begin(0, 0)=1"
                + " run(1)=1 stop()=true run(9)=4 of(0, 8)=1 desk(11)=0");
        script.fresh("handler(0, 2, 1, 0, 1)=true" + goesOn + "step(0, 7, 0)=2 begin(1, 0)=1 call(0)=1 run(1)=1 stop()=true"
                + " call(0)=NONE run(9)=5 of(0, 8)=1 of(0, 11)=0");
    }

    private static void overAsSoonAsAllAreDone(Script script) {
        script.about("As soon as none is left that is not done, the MISSION is over: its AREA is empty, the desk is in SETUP.");
        script.fresh("begin(1, 0)=1 stop()=true desk(0)=0 desk(1)=0 handler(0, 2, 1, 0, 1)=true");
        script.fresh("handler(0, 2, 1, 0, 1)=true begin(1, 0)=1 call(0)=1 stop()=true desk(0)=0 desk(3)=0 desk(12)=1");
        script.fresh("handler(0, 2, 1, 0, 1)=true step(0, 0, 2)=1 begin(1, 0)=1 call(0)=1 run(1)=1 stop()=true desk(0)=2"
                + " desk(1)=1 run(1)=1 desk(0)=0 desk(1)=2 run(1)=NONE");
        // By a FAULT as well.
        script.fresh("handler(0, 2, 1, 0, 1)=true step(0, 0, 1)=1 step(0, 4, 0)=2 begin(1, 0)=1 call(0)=1 run(1)=1 stop()=true"
                + " desk(0)=2 run(9)=1 desk(0)=0 of(0, 13)=1");
        // The last TICK of a run is that of the MISSION, or one is left for the next run.
        script.fresh("handler(0, 2, 1, 0, 1)=true step(0, 8, 0)=1 step(0, 0, 20)=2 begin(1, 0)=1 call(0)=1 run(20)=20 desk(0)=0"
                + " desk(1)=20 desk(13)=0");
        script.fresh("handler(0, 2, 1, 0, 1)=true step(0, 8, 0)=1 step(0, 0, 20)=2 step(0, 0, 1)=3 begin(1, 0)=1 call(0)=1"
                + " run(20)=20 desk(0)=2 run(20)=1 desk(0)=0");
    }

    private static void theAreaIsEmpty(Script script) {
        script.about("the MISSION is over: its AREA is empty, the desk is in SETUP.");
        script.fresh("handler(0, 2, 1, 0, 1)=true step(0, 2, 20)=1 step(0, 0, 2)=2 begin(1, 20)=1 call(0)=1 run(1)=1 desk(5)=1"
                + " desk(6)=0 stop()=true desk(5)=1 run(9)=1 desk(5)=0 desk(6)=0 begin(1, 20)=2 desk(5)=0 desk(6)=20 call(0)=1"
                + " run(1)=1 desk(5)=1 desk(6)=0 of(0, 12)=0");
    }

    private static void withinATick(Script script) {
        script.about("(Within a TICK, TIME is 1 more still.)");
        script.fresh("handler(0, 1, 1, 0, 1)=true step(0, 8, 0)=1 begin(1, 0)=1 run(1)=1 desk(0)=0 desk(1)=1 desk(13)=1");
        script.fresh("handler(0, 1, 1, 0, 1)=true step(0, 8, 0)=1 begin(1, 0)=1 run(20)=1 desk(1)=1 begin(1, 0)=2 run(20)=1"
                + " desk(1)=2 of(0, 9)=2");
        // From outside TIME stays.
        script.fresh("begin(1, 0)=1 run(3)=3 stop()=true desk(0)=0 desk(1)=3");
    }

    private static void again(Script script) {
        script.about("8 STOP: the MISSION is told to end");
        // A second STOP finds the desk ENDING; those that had BEGUN stay.
        script.fresh("handler(0, 2, 1, 0, 1)=true step(0, 0, 1)=1 step(0, 8, 0)=2 step(0, 0, 1)=3 handler(1, 2, 2, 0, 1)=true"
                + " step(1, 8, 0)=1 step(1, 0, 1)=2 begin(1, 0)=1 call(0)=1 run(1)=1 call(1)=1 run(1)=1 desk(0)=2 desk(3)=1"
                + " run(9)=1 desk(0)=0 of(0, 9)=1 of(1, 9)=1 desk(12)=0");
    }
}
