public final class Promise02HandlerTest {
    public static void main(String[] args) {
        Script script = new Script("promise 2");
        script.fresh("handler(0, 0, 1, 0, 1)=true handler(7, 2, 9, 50, 50)=true handler(3, 1, 5, 25, 25)=true"
                + " of(0, 0)=0 of(0, 1)=1 of(7, 0)=2 of(7, 1)=9 of(3, 0)=1 of(3, 1)=5"
                + " of(3, 2)=0 of(3, 3)=0 of(3, 8)=0 of(1, 0)=REFUSED");
        wrongNumbers(script);
        script.fresh("handler(0, 0, 1, 0, 1)=true begin(1, 0)=1 handler(1, 0, 1, 0, 1)=false of(1, 0)=REFUSED"
                + " handler(0, 1, 2, 0, 1)=false of(0, 0)=0 of(0, 1)=1"
                + " stop()=true handler(1, 0, 1, 0, 1)=true");
        notWhileEnding(script);
        asIfNew(script);
        firstAndEveryCount(script);
        script.end();
    }

    private static void wrongNumbers(Script script) {
        String[] wrong = {
            "-1, 0, 1, 0, 1", "8, 0, 1, 0, 1", "MIN, 0, 1, 0, 1", "MAX, 0, 1, 0, 1",
            "0, -1, 1, 0, 1", "0, 3, 1, 0, 1", "0, MAX, 1, 0, 1",
            "0, 0, 0, 0, 1", "0, 0, 10, 0, 1", "0, 0, MIN, 0, 1",
            "0, 0, 1, -1, 1", "0, 0, 1, 51, 1", "0, 2, 1, 51, 1", "0, 2, 1, -1, 1",
            "0, 0, 1, 0, 0", "0, 0, 1, 0, 51", "0, 1, 1, 0, 0", "0, 2, 1, 0, 51", "0, 2, 1, 0, MIN"};
        for (String numbers : wrong) {
            script.fresh("handler(" + numbers + ")=false of(0, 0)=REFUSED of(7, 0)=REFUSED"
                    + " handler(0, 1, 4, 0, 1)=true step(0, 0, 1)=1 handler(" + numbers + ")=false"
                    + " of(0, 0)=1 of(0, 1)=4 of(0, 2)=1");
        }
    }

    private static void notWhileEnding(Script script) {
        script.fresh("handler(0, 2, 1, 0, 1)=true step(0, 0, 2)=1 begin(1, 0)=1 call(0)=1 run(1)=1"
                + " stop()=true desk(0)=2 handler(0, 2, 2, 0, 1)=false handler(1, 2, 2, 0, 1)=false"
                + " of(0, 1)=1 of(1, 1)=REFUSED run(5)=1 handler(0, 2, 2, 0, 1)=true of(0, 1)=2");
    }

    /** Steps, deadline, miss handler and budget are gone; what was counted stays. */
    private static void asIfNew(Script script) {
        script.fresh("handler(0, 2, 1, 0, 1)=true limit(0, 1, 1, 3)=true step(0, 0, 2)=1"
                + " handler(1, 2, 9, 0, 1)=true begin(1, 0)=1 call(0)=1 run(2)=2 of(0, 10)=1 of(1, 8)=1"
                + " stop()=true handler(0, 2, 4, 0, 1)=true of(0, 1)=4 of(0, 2)=0"
                + " of(0, 8)=1 of(0, 9)=1 of(0, 10)=1 of(0, 15)=2"
                + " step(0, 1, 20)=1 step(0, 0, 2)=2 begin(1, 0)=2 call(0)=1 run(3)=3"
                + " of(0, 10)=1 of(1, 8)=1 of(0, 12)=0 of(0, 8)=2 of(0, 9)=2 of(0, 15)=4");
        script.fresh("handler(0, 2, 1, 0, 1)=true step(0, 1, 20)=1 step(0, 1, 1)=2 begin(1, 0)=1"
                + " call(0)=1 run(1)=1 of(0, 12)=1 desk(8)=1");
    }

    private static void firstAndEveryCount(Script script) {
        script.fresh("handler(0, 0, 1, 50, 50)=true step(0, 0, 1)=1 begin(1, 0)=1"
                + " run(20)=20 run(20)=20 run(10)=10 of(0, 8)=0 run(1)=1 of(0, 8)=1"
                + " run(20)=20 run(20)=20 run(9)=9 of(0, 8)=1 run(1)=1 of(0, 8)=2");
    }
}
