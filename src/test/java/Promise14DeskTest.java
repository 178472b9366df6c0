public final class Promise14DeskTest {
    public static void main(String[] args) {
        Script script = new Script("promise 14");
        script.about("REFUSED for others.");
        script.fresh("desk(-1)=REFUSED desk(14)=REFUSED desk(MAX)=REFUSED desk(MIN)=REFUSED");
        inSetup(script);
        chosenNow(script);
        framesOfThisMission(script);
        soFar(script);
        script.about("What 0: 0 in SETUP, 1 if the desk RUNS, 2 if it is ENDING; 1: TIME; 2: how many MISSIONS were begun; 3: how many RELEASES are not done");
        // 0 to 4, 12 and 13 through the life of two missions.
        script.fresh("handler(3, 2, 1, 0, 1)=true step(3, 0, 2)=1 desk(0)=0 begin(1, 5)=1 desk(0)=1 desk(2)=1 desk(4)=NONE"
                + " run(2)=2 desk(1)=2 desk(13)=2 call(3)=1 call(3)=2 desk(3)=2 desk(4)=3 run(1)=1 desk(1)=3 desk(13)=2"
                + " stop()=true desk(0)=2 desk(3)=1 desk(4)=3 desk(12)=1 run(5)=1 desk(0)=0 desk(1)=4 desk(3)=0 desk(4)=NONE"
                + " begin(1, 6)=2 desk(2)=2 desk(1)=4 desk(6)=6 run(1)=1 desk(13)=3 desk(12)=1");
        // 5 to 8: what is in the mission's area goes with it, what was made is counted on.
        script.fresh("handler(0, 2, 1, 0, 1)=true step(0, 2, 2)=1 step(0, 2, 3)=2 step(0, 9, 0)=3 step(0, 1, 1)=4"
                + " step(0, 9, 0)=5 begin(1, 20)=1 call(0)=1 run(1)=1 desk(5)=2 desk(6)=15 desk(7)=2 desk(8)=3 call(0)=1"
                + " run(1)=1 desk(5)=4 desk(6)=10 desk(7)=4 desk(8)=6 stop()=true desk(5)=0 desk(6)=0 desk(7)=4 desk(8)=6"
                + " begin(1, 20)=2 call(0)=1 run(1)=1 desk(5)=2 desk(6)=15 desk(7)=6 desk(8)=9");
        // 9 to 11.
        script.fresh("handler(0, 2, 1, 0, 1)=true step(0, 0, 3)=1 frame(1, 2)=true place(1, 0)=1 frame(2, 2)=true"
                + " desk(9)=NONE desk(10)=0 begin(0, 0)=1 desk(9)=NONE desk(10)=0 run(1)=1 desk(9)=1 desk(10)=1 run(3)=3"
                + " desk(9)=2 desk(10)=2 desk(11)=1 run(1)=1 stop()=true desk(0)=2 desk(9)=1 desk(10)=3 run(5)=2 desk(9)=NONE"
                + " desk(10)=0 desk(11)=1 begin(1, 0)=2 run(2)=2 desk(9)=NONE desk(10)=0 desk(11)=1");
        // 4 tells what would be chosen now, before what comes in the next tick.
        script.fresh("handler(0, 0, 9, 1, 9)=true step(0, 0, 1)=1 handler(1, 2, 1, 0, 1)=true step(1, 0, 5)=1 begin(1, 0)=1"
                + " desk(4)=NONE call(1)=1 desk(4)=1 run(1)=1 desk(4)=1 run(1)=1 of(0, 9)=1 desk(4)=1");
        // A tick with steps that are not work is one without work.
        script.fresh("handler(0, 2, 1, 0, 1)=true step(0, 1, 1)=1 begin(1, 0)=1 call(0)=1 run(1)=1 of(0, 9)=1 desk(13)=1");
        script.end();
    }

    private static void inSetup(Script script) {
        script.about("5: how many OBJECTS are in the AREA of the MISSION, 6: the room left there (0 in SETUP)");
        script.fresh("desk(5)=0 desk(6)=0 begin(1, 100)=1 desk(5)=0 desk(6)=100 stop()=true desk(5)=0 desk(6)=0");
        script.fresh("handler(0, 2, 1, 0, 1)=true step(0, 2, 4)=1 step(0, 0, 2)=2 begin(1, 4)=1 call(0)=1 run(1)=1 desk(5)=1 desk(6)=0"
                + " stop()=true desk(0)=2 desk(5)=1 desk(6)=0 run(1)=1 desk(5)=0 desk(6)=0");
        script.about("REFUSED for others.");
        for (String what : new String[] {"MIN", "-1", "14", "MAX"}) {
            script.fresh("desk(" + what + ")=REFUSED begin(1, 0)=1 desk(" + what + ")=REFUSED run(1)=1 desk(" + what + ")=REFUSED");
        }
    }

    private static void chosenNow(Script script) {
        script.about("4: the HANDLER that would be chosen now (NONE)");
        script.fresh("desk(4)=NONE handler(7, 2, 1, 0, 1)=true desk(4)=NONE begin(1, 0)=1 desk(4)=NONE call(7)=1 desk(4)=7 run(1)=1"
                + " desk(4)=NONE call(7)=1 desk(4)=7 stop()=true desk(4)=NONE");
        script.fresh("handler(0, 2, 1, 0, 1)=true handler(7, 2, 2, 0, 1)=true begin(1, 0)=1 call(0)=1 desk(4)=0 call(7)=1 desk(4)=7");
    }

    private static void framesOfThisMission(Script script) {
        script.about("9: the FRAME that began latest in this MISSION, 10: how many FRAMES have begun in it (9: NONE, 10: 0 in SETUP, LEVEL 1, or before the first one)");
        String none = " desk(9)=NONE desk(10)=0";
        script.fresh("frame(0, 2)=true frame(3, 2)=true" + none + " begin(0, 0)=1" + none + " run(1)=1 desk(9)=0 desk(10)=1 run(2)=2"
                + " desk(9)=3 desk(10)=2 stop()=true" + none + " begin(1, 0)=2" + none + " run(3)=3" + none + " stop()=true" + none
                + " begin(0, 0)=3" + none + " run(1)=1 desk(9)=0 desk(10)=1");
        // While ENDING they are those of this MISSION still.
        script.fresh("handler(0, 2, 1, 0, 1)=true step(0, 0, 3)=1 frame(2, 1)=true place(2, 0)=1 begin(0, 0)=1 run(1)=1 stop()=true"
                + " desk(0)=2 desk(9)=2 desk(10)=1 run(2)=2 desk(0)=0" + none);
    }

    private static void soFar(Script script) {
        script.about("7: how often OBJECTS were made to point so far; 8: OBJECTS made so far");
        script.fresh("handler(0, 2, 1, 0, 1)=true step(0, 1, 1)=1 step(0, 2, 1)=2 step(0, 9, 1)=3 step(0, 9, 0)=4 begin(1, 9)=1 call(0)=1"
                + " run(1)=1 desk(7)=1 desk(8)=2 of(0, 13)=1 stop()=true desk(7)=1 desk(8)=2 begin(1, 0)=2 call(0)=1 run(1)=1 desk(7)=1"
                + " desk(8)=3 of(0, 12)=1");
        script.about("11: OVERRUNS so far; 12: RELEASES that were gone because a MISSION ended, so far; 13: TICKS without work so far.");
        script.fresh("handler(0, 2, 1, 0, 1)=true step(0, 0, 2)=1 frame(0, 1)=true place(0, 0)=1 desk(11)=0 desk(12)=0 desk(13)=0"
                + " begin(0, 0)=1 run(3)=3 desk(11)=1 call(0)=2 call(0)=3 stop()=true desk(12)=2 desk(13)=0 run(9)=1 desk(11)=1"
                + " begin(1, 0)=2 run(3)=3 desk(13)=3 call(0)=1 stop()=true desk(11)=1 desk(12)=3 desk(13)=3");
    }
}
