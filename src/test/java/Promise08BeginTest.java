public final class Promise08BeginTest {
    public static void main(String[] args) {
        Script script = new Script("promise 8");
        script.about("Answers the how manieth MISSION it is (from 1). REFUSED if a number is not as said; NONE if the desk is not in SETUP, or for LEVEL 0 without a FRAME.");
        script.fresh("begin(-1, 0)=REFUSED begin(2, 0)=REFUSED begin(MAX, 0)=REFUSED begin(MIN, 0)=REFUSED"
                + " begin(1, -1)=REFUSED begin(1, 101)=REFUSED begin(0, 101)=REFUSED begin(1, MIN)=REFUSED"
                + " desk(0)=0 desk(2)=0 begin(0, 0)=NONE desk(2)=0 begin(1, 100)=1 desk(0)=1 desk(6)=100 desk(5)=0"
                + " begin(1, 0)=NONE begin(1, 101)=REFUSED desk(6)=100 desk(2)=1 stop()=true desk(0)=0 desk(6)=0"
                + " begin(1, 0)=2 desk(6)=0 stop()=true frame(3, 1)=true begin(0, 7)=3 desk(6)=7 begin(0, 0)=NONE");
        script.fresh("handler(0, 2, 1, 0, 1)=true step(0, 0, 2)=1 begin(1, 9)=1 call(0)=1 run(1)=1 stop()=true"
                + " desk(0)=2 begin(1, 0)=NONE begin(2, 0)=REFUSED desk(2)=1 desk(6)=9 run(9)=1 begin(1, 0)=2");
        edges(script);
        script.about("(What comes at once comes in the first TICK.)");
        script.fresh("handler(0, 0, 1, 0, 5)=true step(0, 0, 2)=1 frame(0, 3)=true place(0, 0)=1 begin(1, 0)=1"
                + " of(0, 8)=0 event(0)=NONE desk(3)=0 desk(4)=NONE run(1)=1 of(0, 8)=1 stop()=true run(1)=1"
                + " begin(0, 0)=2 of(0, 8)=1 desk(10)=0 run(1)=1 of(0, 8)=2 desk(10)=1");
        levelOneByTime(script);
        levelOneByPriority(script);
        firstFrame(script);
        script.end();
    }

    private static void edges(Script script) {
        script.about("whose AREA has this room (0 to 100)");
        for (int room : new int[] {0, 1, 99, 100}) {
            script.fresh("begin(1, " + room + ")=1 desk(6)=" + room + " desk(5)=0 stop()=true desk(6)=0 frame(0, 1)=true"
                    + " begin(0, " + room + ")=2 desk(6)=" + room);
        }
        script.about("Answers the how manieth MISSION it is (from 1).");
        script.fresh("frame(0, 1)=true");
        for (int n = 1; n <= 9; n++) {
            script.then("begin(" + (n & 1) + ", 0)=" + n + " desk(2)=" + n + " begin(1, 0)=NONE begin(1, 101)=REFUSED desk(2)=" + n
                    + " stop()=true");
        }
        script.about("NONE if the desk is not in SETUP, or for LEVEL 0 without a FRAME.");
        script.fresh("begin(0, 0)=NONE begin(0, 101)=REFUSED begin(1, 0)=1 begin(0, 0)=NONE");
        script.fresh("frame(3, 1)=true frame(3, 0)=true begin(0, 0)=NONE desk(0)=0 desk(2)=0");
    }

    private static void levelOneByTime(Script script) {
        script.about("A MISSION begins, by LEVEL 0 or 1");
        // Counted from the beginning of the mission, not from time 0; frames are not looked at.
        script.fresh("handler(0, 0, 1, 2, 3)=true handler(1, 1, 1, 2, 3)=true handler(2, 2, 1, 0, 1)=true"
                + " frame(0, 1)=true place(0, 2)=1 begin(1, 0)=1 run(4)=4 stop()=true of(0, 8)=1 of(1, 8)=1"
                + " begin(1, 0)=2 run(2)=2 of(0, 8)=1 run(1)=1 of(0, 8)=2 of(1, 8)=2 run(2)=2 of(0, 8)=2 run(1)=1"
                + " of(0, 8)=3 of(1, 8)=2 run(3)=3 of(0, 8)=4 of(1, 8)=2 of(2, 8)=0 desk(10)=0 desk(9)=NONE");
        // Several in one tick come by their numbers.
        script.fresh("handler(6, 0, 9, 0, 9)=true step(6, 0, 1)=1 handler(1, 1, 1, 0, 9)=true step(1, 0, 1)=1"
                + " begin(1, 0)=1 run(1)=1 event(3)=9 event(2)=14 event(1)=22 event(0)=30 event(4)=NONE");
        // In level 0 no release comes by time.
        script.fresh("handler(0, 0, 1, 0, 1)=true handler(1, 1, 1, 0, 1)=true frame(0, 30)=true begin(0, 0)=1 run(20)=20"
                + " of(0, 8)=0 of(1, 8)=0");
        // The fifth that is not done is dropped, and the times of the next ones stay.
        script.fresh("handler(0, 0, 1, 0, 1)=true step(0, 0, 6)=1 begin(1, 0)=1 run(4)=4 of(0, 3)=4 of(0, 11)=0"
                + " run(1)=1 of(0, 3)=4 of(0, 11)=1 of(0, 8)=4 event(0)=48 run(1)=1 of(0, 11)=2 of(0, 9)=1 run(1)=1"
                + " of(0, 3)=4 of(0, 8)=5");
    }

    private static void levelOneByPriority(Script script) {
        script.about("A MISSION begins, by LEVEL 0 or 1");
        // The greater priority goes first; of equal ones the one that came first.
        script.fresh("handler(0, 2, 3, 0, 1)=true step(0, 0, 2)=1 handler(1, 2, 4, 0, 1)=true step(1, 0, 1)=1"
                + " handler(2, 2, 3, 0, 1)=true step(2, 0, 1)=1 begin(1, 0)=1 call(2)=1 call(0)=1 desk(4)=2 call(1)=1"
                + " desk(4)=1 run(1)=1 desk(4)=2 run(1)=1 desk(4)=0 run(1)=1 call(2)=1 desk(4)=0 run(1)=1 desk(4)=2");
        // A held lock lifts; an equal active priority that came first goes before.
        script.fresh("ceiling(0, 5)=true handler(0, 2, 1, 0, 1)=true step(0, 5, 0)=1 step(0, 0, 2)=2 step(0, 6, 0)=3"
                + " step(0, 0, 1)=4 handler(1, 2, 5, 0, 1)=true step(1, 0, 1)=1 handler(2, 2, 6, 0, 1)=true"
                + " step(2, 0, 1)=1 begin(1, 0)=1 call(0)=1 run(1)=1 call(1)=1 desk(4)=0 call(2)=1 desk(4)=2 run(1)=1"
                + " desk(4)=0 run(1)=1 desk(4)=0 run(1)=1 of(1, 9)=1 desk(4)=0 of(0, 6)=1 of(0, 4)=3");
        // Level 0 looks at no priority.
        script.fresh("handler(0, 2, 1, 0, 1)=true step(0, 0, 1)=1 handler(1, 2, 9, 0, 1)=true step(1, 0, 1)=1"
                + " frame(0, 30)=true begin(0, 0)=1 run(1)=1 call(0)=1 call(1)=1 desk(4)=0 run(1)=1 desk(4)=1");
    }

    /** It begins with the mission, even if a release from outside waits already. */
    private static void firstFrame(Script script) {
        script.about("The first one begins with the MISSION");
        script.fresh("handler(0, 2, 1, 0, 1)=true step(0, 0, 1)=1 handler(1, 0, 1, 0, 1)=true step(1, 0, 1)=1"
                + " frame(2, 5)=true place(2, 1)=1 begin(0, 0)=1 call(0)=1 run(1)=1 desk(9)=2 desk(10)=1 desk(11)=0"
                + " of(1, 8)=1 of(1, 7)=0 of(0, 9)=1 run(1)=1 of(1, 9)=1");
    }
}
