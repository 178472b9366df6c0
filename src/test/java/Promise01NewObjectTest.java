public final class Promise01NewObjectTest {
    public static void main(String[] args) {
        Script script = new Script("promise 1");
        script.about("In SETUP, TIME 0; no HANDLERS, no FRAMES, CEILINGS 9.");
        script.fresh("desk(0)=0 desk(1)=0 desk(2)=0 desk(3)=0 desk(4)=NONE desk(5)=0 desk(6)=0"
                + " desk(7)=0 desk(8)=0 desk(9)=NONE desk(10)=0 desk(11)=0 desk(12)=0 desk(13)=0"
                + " event(0)=NONE run(1)=NONE stop()=false");
        for (int h = 0; h < 8; h++) {
            script.then("of(" + h + ", 0)=REFUSED memory(" + h + ", 0)=REFUSED call(" + h + ")=REFUSED"
                    + " step(" + h + ", 0, 1)=REFUSED limit(" + h + ", 0, -1, 0)=false");
        }
        for (int f = 0; f < 4; f++) {
            script.then("place(" + f + ", 0)=NONE");
        }
        script.then("begin(0, 0)=NONE begin(1, 0)=1");
        ceilingsAreNine(script);
        script.end();
    }

    private static void ceilingsAreNine(Script script) {
        for (int m = 0; m < 4; m++) {
            script.fresh("handler(0, 2, 9, 0, 1)=true step(0, 5, " + m + ")=1 step(0, 0, 1)=2"
                    + " handler(1, 2, 1, 0, 1)=true step(1, 5, " + m + ")=1 step(1, 0, 2)=2"
                    + " begin(1, 0)=1 call(1)=1 run(1)=1 of(1, 6)=9"
                    + " call(0)=1 run(3)=3 of(0, 9)=1 of(0, 14)=0");
        }
    }
}
