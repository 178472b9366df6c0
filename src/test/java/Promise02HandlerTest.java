public final class Promise02HandlerTest {
    public static void main(String[] args) {
        Script script = new Script("promise 2");
        script.about("HANDLER h (0 to 7) is there, as if new, with this KIND (0 to 2), PRIORITY (1 to 9), FIRST (0 to 50) and EVERY (1 to 50)");
        script.fresh("handler(0, 0, 1, 0, 1)=true handler(7, 2, 9, 50, 50)=true handler(3, 1, 5, 25, 25)=true"
                + " of(0, 0)=0 of(0, 1)=1 of(7, 0)=2 of(7, 1)=9 of(3, 0)=1 of(3, 1)=5"
                + " of(3, 2)=0 of(3, 3)=0 of(3, 8)=0 of(1, 0)=REFUSED");
        wrongNumbers(script);
        edgesThatAreFine(script);
        notInSetup(script);
        asIfNew(script);
        firstAndEveryCount(script);
        script.end();
    }

    private static void wrongNumbers(Script script) {
        script.about("False, changing nothing, if a number is not as said (all are looked at for every KIND)");
        String[] wrong = {
            "-1, 0, 1, 0, 1", "8, 0, 1, 0, 1", "MIN, 0, 1, 0, 1", "MAX, 0, 1, 0, 1",
            "0, -1, 1, 0, 1", "0, 3, 1, 0, 1", "0, MAX, 1, 0, 1",
            "0, 0, 0, 0, 1", "0, 0, 10, 0, 1", "0, 0, MIN, 0, 1",
            "0, 0, 1, -1, 1", "0, 0, 1, 51, 1", "0, 2, 1, 51, 1", "0, 2, 1, -1, 1",
            "0, 0, 1, 0, 0", "0, 0, 1, 0, 51", "0, 1, 1, 0, 0", "0, 2, 1, 0, 51", "0, 2, 1, 0, MIN"};
        for (String numbers : wrong) {
            script.fresh("handler(" + numbers + ")=false of(0, 0)=REFUSED of(7, 0)=REFUSED"
                    + " handler(0, 1, 4, 0, 1)=true step(0, 0, 1)=1 handler(" + numbers + ")=false"
                    + " of(0, 0)=1 of(0, 1)=4 of(0, 2)=1");
        }
    }

    /** Each number at its least and its greatest. */
    private static void edgesThatAreFine(Script script) {
        script.about("HANDLER h (0 to 7) is there, as if new, with this KIND (0 to 2), PRIORITY (1 to 9), FIRST (0 to 50) and EVERY (1 to 50)");
        for (int kind = 0; kind <= 2; kind++) {
            for (String numbers : new String[] {"1, 0, 1", "9, 0, 1", "1, 50, 1", "1, 0, 50", "9, 50, 50"}) {
                script.fresh("handler(0, " + kind + ", " + numbers + ")=true of(0, 0)=" + kind + " of(0, 1)=" + numbers.charAt(0)
                        + " handler(7, " + kind + ", " + numbers + ")=true of(7, 0)=" + kind + " of(7, 1)=" + numbers.charAt(0));
            }
        }
    }

    private static void notInSetup(Script script) {
        script.about("False, changing nothing, if a number is not as said (all are looked at for every KIND), or the desk is not in SETUP.");
        script.fresh("handler(0, 0, 1, 0, 1)=true begin(1, 0)=1 handler(1, 0, 1, 0, 1)=false of(1, 0)=REFUSED"
                + " handler(0, 1, 2, 0, 1)=false of(0, 0)=0 of(0, 1)=1"
                + " stop()=true handler(1, 0, 1, 0, 1)=true");
        script.fresh("handler(0, 2, 1, 0, 1)=true step(0, 0, 2)=1 begin(1, 0)=1 call(0)=1 run(1)=1"
                + " stop()=true desk(0)=2 handler(0, 2, 2, 0, 1)=false handler(1, 2, 2, 0, 1)=false"
                + " of(0, 1)=1 of(1, 1)=REFUSED run(5)=1 handler(0, 2, 2, 0, 1)=true of(0, 1)=2");
    }

    /** Steps, deadline, miss handler and budget are gone; what was counted stays. */
    private static void asIfNew(Script script) {
        script.about("as if new, with this KIND (0 to 2), PRIORITY (1 to 9), FIRST (0 to 50) and EVERY (1 to 50), no DEADLINE and MISS HANDLER, BUDGET 20, no STEPS: true.");
        script.fresh("handler(0, 2, 1, 0, 1)=true limit(0, 1, 1, 3)=true step(0, 0, 2)=1"
                + " handler(1, 2, 9, 0, 1)=true begin(1, 0)=1 call(0)=1 run(2)=2 of(0, 10)=1 of(1, 8)=1"
                + " stop()=true handler(0, 2, 4, 0, 1)=true of(0, 1)=4 of(0, 2)=0"
                + " of(0, 8)=1 of(0, 9)=1 of(0, 10)=1 of(0, 15)=2"
                + " step(0, 1, 20)=1 step(0, 0, 2)=2 begin(1, 0)=2 call(0)=1 run(3)=3"
                + " of(0, 10)=1 of(1, 8)=1 of(0, 12)=0 of(0, 8)=2 of(0, 9)=2 of(0, 15)=4");
        script.fresh("handler(0, 2, 1, 0, 1)=true step(0, 1, 20)=1 step(0, 1, 1)=2 begin(1, 0)=1"
                + " call(0)=1 run(1)=1 of(0, 12)=1 desk(8)=1");
    }

    private static void firstAndEveryCount(Script script) {
        script.about("FIRST (0 to 50) and EVERY (1 to 50)");
        script.fresh("handler(0, 0, 1, 50, 50)=true step(0, 0, 1)=1 begin(1, 0)=1"
                + " run(20)=20 run(20)=20 run(10)=10 of(0, 8)=0 run(1)=1 of(0, 8)=1"
                + " run(20)=20 run(20)=20 run(9)=9 of(0, 8)=1 run(1)=1 of(0, 8)=2");
    }
}
