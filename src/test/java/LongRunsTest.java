/** "An object is used for at most 512 calls after it has been made": the 512th answers as the first one. */
public final class LongRunsTest {
    public static void main(String[] args) {
        Script script = new Script("long runs");
        script.about("An object is used for at most 512 calls after it has been made");
        manyTicks(script);
        manySteps(script);
        manyMissions(script);
        manyReleases(script);
        manyFrames(script);
        script.end();
    }

    private static void manyTicks(Script script) {
        script.fresh("handler(0, 0, 1, 0, 50)=true step(0, 0, 20)=1 begin(1, 0)=1").times(505, "run(20)=20");
        script.then("desk(1)=10100 of(0, 8)=202 of(0, 15)=4040 desk(13)=6060");
    }

    private static void manySteps(Script script) {
        script.fresh("handler(0, 2, 1, 0, 1)=true step(0, 7, 0)=1 begin(1, 0)=1 call(0)=1").times(504, "run(20)=20");
        script.then("of(0, 9)=403200 of(0, 8)=403201 event(31)=8 event(0)=24");
    }

    private static void manyMissions(Script script) {
        script.fresh("handler(0, 1, 1, 0, 1)=true step(0, 2, 1)=1 step(0, 8, 0)=2");
        for (int mission = 1; mission <= 169; mission++) {
            script.then("begin(1, 1)=" + mission + " run(20)=1 desk(5)=0");
        }
        script.then("desk(2)=169 desk(8)=169");
    }

    private static void manyReleases(Script script) {
        script.fresh("handler(0, 2, 1, 0, 1)=true begin(1, 0)=1");
        script.times(63, "call(0)=1 event(0)=8 call(0)=2 event(1)=8 call(0)=3 event(2)=8 run(1)=1 event(0)=24");
        script.then("of(0, 8)=189 of(0, 9)=189 desk(3)=0");
    }

    private static void manyFrames(Script script) {
        script.fresh("frame(0, 1)=true frame(3, 1)=true begin(0, 0)=1").times(505, "run(20)=20");
        script.then("desk(10)=10100 desk(9)=3 desk(11)=0 desk(13)=10100");
    }
}
