public final class Promise11StopTest {
    public static void main(String[] args) {
        Script script = new Script("promise 11");
        script.about("The MISSION is told to end, from outside: true; false if the desk does not RUN.");
        script.fresh("stop()=false begin(1, 9)=1 stop()=true desk(0)=0 desk(1)=0 desk(2)=1 desk(6)=0 stop()=false"
                + " run(1)=NONE");
        script.about("false if the desk does not RUN.");
        script.fresh("stop()=false desk(0)=0 handler(0, 2, 1, 0, 1)=true step(0, 0, 3)=1 stop()=false begin(1, 0)=1 call(0)=1 run(1)=1"
                + " stop()=true desk(0)=2 stop()=false desk(0)=2 run(1)=1 stop()=false run(9)=1 desk(0)=0 stop()=false desk(0)=0");
        script.about("The MISSION is told to end, from outside: true");
        script.fresh("frame(0, 1)=true begin(0, 0)=1 stop()=true desk(0)=0 desk(1)=0 begin(0, 0)=2 run(1)=1 stop()=true desk(0)=0 desk(1)=1");
        // Begun ones go on, the others are gone: neither done nor dropped, and without an event.
        script.fresh("handler(0, 2, 1, 0, 1)=true step(0, 0, 3)=1 handler(1, 2, 1, 0, 1)=true step(1, 0, 1)=1"
                + " begin(1, 9)=1 call(0)=1 call(0)=2 call(1)=1 call(1)=2 run(1)=1 event(0)=16 stop()=true event(0)=16"
                + " desk(0)=2 desk(3)=1 desk(12)=3 of(0, 3)=1 of(1, 3)=0 of(0, 5)=1 of(1, 7)=NONE stop()=false desk(12)=3"
                + " desk(4)=0 desk(6)=9 run(20)=2 desk(0)=0 of(0, 9)=1 of(1, 9)=0 of(1, 11)=0 of(0, 8)=2 of(1, 8)=2"
                + " desk(12)=3");
        // None had begun: the mission is over at once, and the next one finds nothing of it.
        script.fresh("handler(0, 2, 1, 0, 1)=true step(0, 0, 3)=1 begin(1, 9)=1 call(0)=1 call(0)=2 stop()=true desk(0)=0"
                + " desk(12)=2 desk(3)=0 begin(1, 0)=2 of(0, 3)=0 run(2)=2 of(0, 15)=0 desk(12)=2 call(0)=1"
                + " stop()=true desk(12)=3");
        severalHaveBegun(script);
        noMoreCome(script);
        byStep(script);
        theAreaIsEmpty(script);
        script.end();
    }

    private static void severalHaveBegun(Script script) {
        script.about("RELEASES that have not BEGUN are gone (they are not done, nor DROPPED)");
        script.fresh("handler(0, 2, 1, 0, 1)=true step(0, 0, 2)=1 handler(1, 2, 5, 0, 1)=true step(1, 0, 2)=1"
                + " begin(1, 0)=1 call(0)=1 run(1)=1 call(1)=1 run(1)=1 call(0)=2 call(1)=2 stop()=true desk(3)=2"
                + " desk(12)=2 desk(4)=1 run(1)=1 desk(0)=2 desk(4)=0 run(20)=1 of(0, 9)=1 of(1, 9)=1 desk(0)=0");
    }

    private static void noMoreCome(Script script) {
        script.about("no more come.");
        script.fresh("handler(0, 0, 1, 0, 1)=true step(0, 0, 5)=1 begin(1, 0)=1 run(1)=1 stop()=true run(20)=4 of(0, 8)=1"
                + " of(0, 11)=0 desk(12)=0");
        script.fresh("handler(0, 0, 1, 0, 1)=true step(0, 0, 5)=1 frame(0, 1)=true place(0, 0)=1 frame(1, 1)=true"
                + " begin(0, 0)=1 run(1)=1 stop()=true desk(9)=0 desk(10)=1 run(20)=4 of(0, 8)=1 desk(11)=0 desk(9)=NONE"
                + " desk(10)=0");
    }

    private static void byStep(Script script) {
        script.about("8 STOP: the MISSION is told to end");
        // The release that tells so goes on behind its step; a second STOP does nothing.
        script.fresh("handler(0, 2, 5, 0, 1)=true step(0, 8, 0)=1 step(0, 0, 2)=2 step(0, 8, 0)=3 step(0, 1, 1)=4"
                + " handler(1, 2, 1, 0, 1)=true begin(1, 0)=1 call(0)=1 call(0)=2 call(1)=1 run(1)=1 desk(0)=2"
                + " desk(12)=2 of(0, 4)=1 run(20)=2 of(0, 9)=1 of(1, 9)=0 desk(8)=1 desk(1)=3 desk(13)=1");
        // Its end by a fault is an end too.
        script.fresh("handler(0, 2, 5, 0, 1)=true step(0, 8, 0)=1 step(0, 4, 0)=2 begin(1, 0)=1 call(0)=1 run(20)=1"
                + " of(0, 13)=1 desk(0)=0 event(0)=32");
    }

    private static void theAreaIsEmpty(Script script) {
        script.about("the MISSION is over: its AREA is empty, the desk is in SETUP.");
        script.fresh("handler(0, 2, 5, 0, 1)=true step(0, 2, 4)=1 step(0, 0, 2)=2 begin(1, 9)=1 call(0)=1 run(1)=1"
                + " desk(5)=1 desk(6)=5 stop()=true desk(5)=1 desk(6)=5 run(20)=1 desk(5)=0 desk(6)=0 desk(8)=1"
                + " begin(1, 9)=2 desk(5)=0 desk(6)=9");
    }
}
