public final class Promise06FrameTest {
    public static void main(String[] args) {
        Script script = new Script("promise 6");
        script.about("FRAME f (0 to 3) is there with so many TICKS (1 to 30) and no places taken, whatever it was, or, with 0, is not there any more: true; false likewise.");
        script.fresh("frame(0, 1)=true frame(3, 30)=true frame(1, 0)=true"
                + " frame(-1, 1)=false frame(4, 1)=false frame(MAX, 1)=false frame(MIN, 0)=false"
                + " frame(0, -1)=false frame(0, 31)=false frame(0, MAX)=false frame(0, MIN)=false"
                + " place(0, 0)=1 place(1, 0)=NONE place(3, 0)=1");
        edgesThatAreFine(script);
        noPlacesWhateverItWas(script);
        script.fresh("frame(0, 5)=true place(0, 0)=1 begin(0, 0)=1 frame(0, 1)=false frame(1, 1)=false"
                + " frame(0, 0)=false run(1)=1 stop()=true place(0, 0)=2 place(1, 0)=NONE");
        notWhileEnding(script);
        turnsByNumber(script);
        overruns(script);
        emptyFrames(script);
        staysForLaterMissions(script);
        script.end();
    }

    private static void edgesThatAreFine(Script script) {
        script.about("FRAME f (0 to 3) is there with so many TICKS (1 to 30)");
        for (int f = 0; f <= 3; f++) {
            script.fresh("frame(" + f + ", 1)=true begin(0, 0)=1 run(1)=1 desk(10)=1 run(1)=1 desk(10)=2");
            script.fresh("frame(" + f + ", 30)=true begin(0, 0)=1 run(20)=20 run(10)=10 desk(10)=1 run(1)=1 desk(10)=2");
        }
        script.about("or, with 0, is not there any more: true");
        for (int f = 0; f <= 3; f++) {
            script.fresh("frame(" + f + ", 0)=true place(" + f + ", 0)=NONE begin(0, 0)=NONE frame(" + f + ", 5)=true"
                    + " place(" + f + ", 0)=1 frame(" + f + ", 0)=true place(" + f + ", 0)=NONE begin(0, 0)=NONE"
                    + " frame(" + f + ", 0)=true begin(0, 0)=NONE");
        }
        // It takes no turn any more.
        script.fresh("frame(0, 1)=true frame(1, 1)=true frame(2, 1)=true frame(1, 0)=true begin(0, 0)=1 run(1)=1 desk(9)=0 run(1)=1"
                + " desk(9)=2 run(1)=1 desk(9)=0");
        script.about("and no places taken, whatever it was");
        script.fresh("handler(0, 2, 1, 0, 1)=true frame(0, 5)=true place(0, 0) place(0, 0) place(0, 0) place(0, 0)=4 place(0, 0)=FULL"
                + " frame(0, 7)=true begin(0, 0)=1 run(6)=6 of(0, 8)=0 desk(10)=1 stop()=true place(0, 0)=1");
        script.fresh("handler(0, 2, 1, 0, 1)=true frame(0, 5)=true place(0, 0)=1 frame(0, 0)=true frame(0, 5)=true begin(0, 0)=1"
                + " run(1)=1 of(0, 8)=0");
    }

    private static void noPlacesWhateverItWas(Script script) {
        script.fresh("frame(2, 3)=true place(2, 0)=1 place(2, 1)=2 frame(2, 3)=true place(2, 0)=1"
                + " frame(2, 31)=false place(2, 0)=2 frame(2, 0)=true place(2, 0)=NONE begin(0, 0)=NONE"
                + " frame(2, 0)=true frame(2, 1)=true place(2, 0)=1 begin(0, 0)=1");
    }

    private static void notWhileEnding(Script script) {
        script.fresh("handler(0, 2, 1, 0, 1)=true step(0, 0, 2)=1 frame(0, 9)=true place(0, 0)=1 begin(0, 0)=1"
                + " run(1)=1 stop()=true desk(0)=2 frame(0, 0)=false frame(1, 1)=false run(9)=1 frame(0, 0)=true"
                + " begin(0, 0)=NONE");
    }

    private static void turnsByNumber(Script script) {
        script.about("They take turns by their numbers, again and again.");
        script.fresh("frame(3, 1)=true frame(0, 2)=true frame(2, 3)=true begin(0, 0)=1 desk(9)=NONE desk(10)=0"
                + " run(1)=1 desk(9)=0 desk(10)=1 run(1)=1 desk(9)=0 run(1)=1 desk(9)=2 desk(10)=2 run(2)=2"
                + " desk(9)=2 run(1)=1 desk(9)=3 run(1)=1 desk(9)=0 desk(10)=4 run(1)=1 desk(9)=0 run(1)=1 desk(9)=2"
                + " desk(11)=0");
        script.fresh("frame(2, 1)=true begin(0, 0)=1 run(3)=3 desk(9)=2 desk(10)=3 desk(11)=0");
    }

    private static void overruns(Script script) {
        script.about("which is an OVERRUN");
        // Frame 0 has 2 ticks and 5 of work: the next ones begin late, one in a tick.
        script.fresh("handler(0, 0, 1, 50, 50)=true step(0, 0, 5)=1 frame(0, 2)=true place(0, 0)=1 frame(1, 1)=true"
                + " frame(2, 4)=true begin(0, 0)=1 run(5)=5 desk(9)=0 desk(11)=0 run(1)=1 desk(9)=1 desk(11)=1"
                + " event(0)=56 event(1)=24 run(1)=1 desk(9)=2 desk(10)=3 desk(11)=2 event(0)=56 run(1)=1 desk(9)=0"
                + " desk(10)=4 desk(11)=2 of(0, 8)=2 of(0, 7)=7");
        // The times at which later ones are to begin stay as they are.
        script.fresh("handler(0, 2, 1, 0, 1)=true step(0, 0, 3)=1 frame(0, 2)=true place(0, 0)=1 frame(1, 2)=true"
                + " begin(0, 0)=1 run(4)=4 desk(9)=1 desk(11)=1 run(1)=1 desk(9)=0 desk(11)=1 of(0, 7)=4");
        // Work that ends just in time is no overrun; one tick more is.
        script.fresh("handler(0, 2, 1, 0, 1)=true step(0, 0, 3)=1 frame(0, 3)=true place(0, 0)=1 begin(0, 0)=1"
                + " run(20)=20 desk(11)=0 of(0, 8)=7");
        script.fresh("handler(0, 2, 1, 0, 1)=true step(0, 0, 4)=1 frame(0, 3)=true place(0, 0)=1 begin(0, 0)=1"
                + " run(4)=4 desk(11)=0 run(1)=1 desk(11)=1 event(0)=16 event(1)=8 event(2)=56");
        // A call from outside between two ticks holds the next frame up as well.
        script.fresh("handler(0, 2, 1, 0, 1)=true step(0, 0, 1)=1 frame(0, 2)=true begin(0, 0)=1 run(2)=2 call(0)=1"
                + " run(1)=1 desk(10)=1 run(1)=1 desk(10)=2 desk(11)=1");
        // Overruns are counted for all missions, and none is told while the desk is ending.
        script.fresh("handler(0, 2, 1, 0, 1)=true step(0, 0, 2)=1 frame(0, 1)=true place(0, 0)=1 begin(0, 0)=1"
                + " run(3)=3 desk(11)=1 stop()=true run(9)=1 desk(11)=1 begin(0, 0)=2 run(3)=3 desk(11)=2");
    }

    private static void emptyFrames(Script script) {
        script.about("They take turns by their numbers, again and again.");
        script.fresh("frame(0, 1)=true begin(0, 0)=1 run(20)=20 desk(10)=20 desk(11)=0 desk(13)=20 event(0)=NONE");
    }

    private static void staysForLaterMissions(Script script) {
        script.about("What is laid down in SETUP stays for all MISSIONS.");
        script.fresh("handler(0, 2, 1, 0, 1)=true frame(1, 2)=true place(1, 0)=1 frame(3, 2)=true begin(0, 0)=1"
                + " run(3)=3 desk(9)=3 stop()=true begin(0, 0)=2 desk(9)=NONE desk(10)=0 run(1)=1 desk(9)=1"
                + " of(0, 8)=2");
    }
}
