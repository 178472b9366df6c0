public final class Promise07PlaceTest {
    public static void main(String[] args) {
        Script script = new Script("promise 7");
        script.about("HANDLER h (0 to 7, there or not) takes the next place of FRAME f: how many places are taken then. REFUSED if a number is not as said; NONE if FRAME f is not there, or the desk is not in SETUP; FULL if 4 are taken.");
        script.fresh("place(0, 0)=NONE frame(0, 5)=true place(0, 0)=1 place(0, 7)=2 place(0, 7)=3 place(0, 3)=4"
                + " place(0, 0)=FULL place(0, 8)=REFUSED place(0, -1)=REFUSED place(1, 0)=NONE"
                + " place(4, 0)=REFUSED place(-1, 0)=REFUSED place(MAX, 0)=REFUSED place(0, MIN)=REFUSED"
                + " place(1, 8)=REFUSED begin(0, 0)=1 place(0, 0)=NONE place(0, 8)=REFUSED place(4, 0)=REFUSED"
                + " stop()=true place(0, 0)=FULL");
        script.fresh("handler(0, 2, 1, 0, 1)=true step(0, 0, 2)=1 frame(0, 9)=true place(0, 0)=1 begin(0, 0)=1 run(1)=1"
                + " stop()=true desk(0)=2 place(0, 0)=NONE run(9)=1 place(0, 0)=2");
        oneAnswerEach(script);
        orderOfPlaces(script);
        script.end();
    }

    private static void oneAnswerEach(Script script) {
        for (int f = 0; f <= 3; f++) {
            for (int h = 0; h <= 7; h++) {
                script.about("HANDLER h (0 to 7, there or not) takes the next place of FRAME f: how many places are taken then.");
                script.fresh("frame(" + f + ", 9)=true place(" + f + ", " + h + ")=1 handler(" + h + ", 0, 1, 9, 9)=true"
                        + " place(" + f + ", " + h + ")=2 begin(0, 0)=1 run(1)=1 of(" + h + ", 8)=2");
            }
            script.about("NONE if FRAME f is not there, or the desk is not in SETUP");
            script.fresh("place(" + f + ", 0)=NONE frame(" + (f + 1 & 3) + ", 1)=true place(" + f + ", 0)=NONE");
            script.fresh("frame(" + f + ", 9)=true begin(0, 0)=1 place(" + f + ", 0)=NONE stop()=true place(" + f + ", 0)=1");
            script.about("FULL if 4 are taken.");
            script.fresh("frame(" + f + ", 9)=true place(" + f + ", 0)=1 place(" + f + ", 7)=2 place(" + f + ", 0)=3 place(" + f + ", 1)=4"
                    + " place(" + f + ", 2)=FULL place(" + f + ", 2)=FULL");
            // Full ones are those of this FRAME alone.
            script.then("frame(" + (f + 1 & 3) + ", 9)=true place(" + (f + 1 & 3) + ", 0)=1 place(" + f + ", 2)=FULL");
            script.about("REFUSED if a number is not as said");
            script.then("place(" + f + ", 8)=REFUSED place(" + f + ", -1)=REFUSED");
        }
    }

    /** By places, not by numbers or priorities; whatever the kind; absent ones are passed over. */
    private static void orderOfPlaces(Script script) {
        script.about("HANDLER h (0 to 7, there or not) takes the next place of FRAME f");
        script.fresh("frame(0, 9)=true place(0, 5)=1 place(0, 2)=2 place(0, 4)=3 place(0, 5)=4"
                + " handler(5, 0, 1, 50, 50)=true step(5, 0, 1)=1 handler(4, 1, 9, 50, 1)=true step(4, 0, 1)=1"
                + " begin(0, 0)=1 run(1)=1 event(0)=29 event(1)=21 event(2)=13 event(3)=12 event(4)=13 event(5)=NONE"
                + " desk(4)=4 of(5, 3)=1 run(1)=1 event(0)=28 desk(4)=5 run(1)=1 event(0)=29 of(5, 9)=2 of(4, 9)=1"
                + " desk(3)=0");
    }
}
