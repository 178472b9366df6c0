public final class Promise10CallTest {
    public static void main(String[] args) {
        Script script = new Script("promise 10");
        script.about("HANDLER h is CALLED from outside, between two TICKS: how many RELEASES it has then that are not done. REFUSED if it is not there, or not CALLED by KIND; NONE if the desk does not RUN; FULL if its RELEASE was DROPPED (which is counted).");
        script.fresh("handler(0, 2, 1, 0, 1)=true step(0, 0, 3)=1 handler(1, 0, 1, 50, 1)=true"
                + " handler(2, 1, 1, 50, 1)=true call(0)=NONE call(1)=REFUSED call(2)=REFUSED call(3)=REFUSED"
                + " call(-1)=REFUSED call(8)=REFUSED call(MAX)=REFUSED call(MIN)=REFUSED event(0)=NONE"
                + " begin(1, 0)=1 call(1)=REFUSED call(2)=REFUSED call(3)=REFUSED call(8)=REFUSED desk(3)=0"
                + " call(0)=1 event(0)=8 of(0, 3)=1 of(0, 8)=1 of(0, 7)=0 call(0)=2 call(0)=3 call(0)=4 call(0)=FULL"
                + " of(0, 3)=4 of(0, 8)=4 of(0, 11)=1 event(0)=48 event(1)=8 desk(3)=4 call(0)=FULL of(0, 11)=2"
                + " run(3)=3 of(0, 9)=1 call(0)=4 of(0, 8)=5");
        script.fresh("handler(0, 2, 1, 0, 1)=true step(0, 0, 2)=1 begin(1, 0)=1 run(3)=3 call(0)=1 of(0, 7)=3"
                + " run(1)=1 call(0)=2 of(0, 7)=3 run(1)=1 of(0, 7)=4 stop()=true call(0)=NONE");
        oneAnswerEach(script);
        notWhileEnding(script);
        byStep(script);
        inLevelZero(script);
        script.end();
    }

    private static void oneAnswerEach(Script script) {
        for (int h = 0; h <= 7; h++) {
            String call = " call(" + h + ")=";
            script.about("NONE if the desk does not RUN");
            script.fresh("handler(" + h + ", 2, 1, 0, 1)=true" + call + "NONE begin(1, 0)=1");
            script.about("how many RELEASES it has then that are not done.");
            script.then(call + "1" + call + "2" + call + "3" + call + "4");
            script.about("FULL if its RELEASE was DROPPED (which is counted).");
            script.then(call + "FULL of(" + h + ", 11)=1" + call + "FULL of(" + h + ", 11)=2 of(" + h + ", 8)=4 stop()=true" + call + "NONE"
                    + " of(" + h + ", 11)=2");
            script.about("REFUSED if it is not there, or not CALLED by KIND");
            script.fresh("call(" + h + ")=REFUSED begin(1, 0)=1 call(" + h + ")=REFUSED desk(3)=0");
            for (int kind = 0; kind <= 1; kind++) {
                script.fresh("handler(" + h + ", " + kind + ", 1, 0, 1)=true step(" + h + ", 0, 3)=1" + call + "REFUSED begin(1, 0)=1"
                        + call + "REFUSED desk(3)=0 run(1)=1 stop()=true desk(0)=2" + call + "REFUSED");
            }
        }
        script.about("HANDLER h is CALLED from outside, between two TICKS");
        script.fresh("handler(0, 2, 1, 0, 1)=true step(0, 0, 1)=1 begin(1, 0)=1 run(3)=3 call(0)=1 of(0, 7)=3 of(0, 15)=0 desk(1)=3"
                + " memory(0, 0)=NONE run(1)=1 of(0, 15)=1 of(0, 9)=1");
    }

    private static void notWhileEnding(Script script) {
        script.about("NONE if the desk does not RUN");
        script.fresh("handler(0, 2, 1, 0, 1)=true step(0, 0, 2)=1 handler(1, 0, 1, 50, 1)=true begin(1, 0)=1 call(0)=1"
                + " run(1)=1 stop()=true desk(0)=2 call(0)=NONE call(1)=REFUSED of(0, 8)=1 of(0, 11)=0 run(9)=1"
                + " desk(0)=0 call(0)=NONE");
    }

    private static void byStep(Script script) {
        script.about("nothing happens if it is not there, of another KIND, or the desk is ENDING.");
        // Of another kind, or not there: the step is done, nothing comes of it.
        script.fresh("handler(0, 2, 1, 0, 1)=true step(0, 7, 1)=1 step(0, 7, 2)=2 step(0, 7, 3)=3 step(0, 0, 1)=4"
                + " handler(1, 0, 9, 50, 50)=true handler(2, 1, 9, 50, 50)=true begin(1, 0)=1 call(0)=1 run(1)=1"
                + " of(0, 9)=1 of(1, 8)=0 of(2, 8)=0 desk(3)=0");
        // A release calls its own handler while it is not done itself: the fourth call is one too many.
        script.fresh("handler(0, 2, 1, 0, 1)=true step(0, 7, 0)=1 step(0, 7, 0)=2 step(0, 7, 0)=3 step(0, 7, 0)=4"
                + " step(0, 0, 2)=5 begin(1, 0)=1 call(0)=1 run(1)=1 of(0, 3)=4 of(0, 8)=4 of(0, 11)=1 event(0)=48"
                + " event(1)=8 of(0, 9)=0 of(0, 4)=4");
        // While ending a call does nothing.
        script.fresh("handler(0, 2, 1, 0, 1)=true step(0, 8, 0)=1 step(0, 7, 1)=2 step(0, 0, 1)=3"
                + " handler(1, 2, 9, 0, 1)=true begin(1, 0)=1 call(0)=1 run(9)=1 of(0, 9)=1 of(1, 8)=0 of(1, 11)=0");
    }

    private static void inLevelZero(Script script) {
        script.about("HANDLER h is CALLED from outside, between two TICKS");
        script.fresh("handler(0, 2, 1, 0, 1)=true step(0, 0, 1)=1 handler(1, 2, 9, 0, 1)=true step(1, 0, 1)=1"
                + " frame(0, 9)=true place(0, 1)=1 begin(0, 0)=1 run(1)=1 call(0)=1 call(1)=1 run(2)=2 of(0, 9)=1"
                + " of(1, 9)=2");
    }
}
