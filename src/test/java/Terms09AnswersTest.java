/**
 * "Terms": "In each call REFUSED is tested first. A call that answers REFUSED, NONE or FULL changes
 * nothing but what is said." And for those that answer false: "changing nothing".
 */
public final class Terms09AnswersTest {
    private static final String[] FAR = {"MIN", "-1", "MAX"};

    private static final String LAID_DOWN =
            "handler(0, 2, 3, 0, 1) limit(0, 2, 2, 9) step(0, 5, 1) step(0, 1, 4) step(0, 2, 3) step(0, 0, 2)"
            + " handler(1, 0, 5, 1, 3) step(1, 3, 6) step(1, 1, 2) step(1, 0, 1)"
            + " handler(2, 2, 4, 0, 1) ceiling(1, 6) frame(0, 4) place(0, 0) place(0, 1) frame(2, 3) place(2, 2) ";
    private static final String SETUP = LAID_DOWN;
    private static final String RUNS_ONE = LAID_DOWN + "begin(1, 40) run(2) call(0) call(0) run(1) ";
    private static final String RUNS_ZERO = LAID_DOWN + "begin(0, 40) run(2) call(0) ";
    private static final String ENDING = LAID_DOWN + "begin(1, 40) call(0) run(1) call(0) stop() ";
    private static final String SETUP_AGAIN = ENDING + "run(20) ";
    private static final String[] ALL = {SETUP, RUNS_ONE, RUNS_ZERO, ENDING, SETUP_AGAIN};

    /** What was laid down, or is under way, shows in this. */
    private static final String TAIL =
            "begin(1, 40) call(0) run(2) memory(0, 1) of(0, 6) run(1) call(0) run(3) call(2) run(4) stop() run(20)"
            + " begin(0, 40) run(9) desk(9) desk(10) desk(11) call(0) run(4) stop() run(20) step(0, 0, 1) place(0, 1)"
            + " place(2, 1) begin(1, 7) call(0) run(9) ";

    private static int runs;
    private static int wrong;

    public static void main(String[] args) {
        phasesAreAsMeant();
        wrongNumbers();
        notThere();
        notInSetup();
        onlyInSetup();
        notRunning();
        fullOnes();
        looks();
        System.out.println("terms, answers: " + runs + " runs, " + wrong + " wrong");
        if (wrong != 0) {
            System.exit(1);
        }
    }

    private static void changesNothing(String before, String call) {
        Twins twins = new Twins(before).odd(call).look().both(TAIL).look();
        runs++;
        wrong += twins.wrong();
    }

    private static void everywhere(String call) {
        for (String before : ALL) {
            changesNothing(before, call);
        }
    }

    private static void phasesAreAsMeant() {
        changesNothing(SETUP, "desk(0)=0 desk(2)=0");
        changesNothing(RUNS_ONE, "desk(0)=1 desk(9)=NONE of(0, 3)=2 memory(0, 3)=1");
        changesNothing(RUNS_ZERO, "desk(0)=1 desk(9)=0 desk(10)=1");
        changesNothing(ENDING, "desk(0)=2 desk(3)=1 desk(12)=1");
        changesNothing(SETUP_AGAIN, "desk(0)=0 desk(2)=1");
    }

    /** One argument is just outside, or far outside, the others are as they must be. */
    private static void wrongNumbers() {
        outside("handler(", ", 1, 9, 7, 8)=false", -1, 8);
        outside("handler(0, ", ", 9, 7, 8)=false", -1, 3);
        outside("handler(0, 1, ", ", 7, 8)=false", 0, 10);
        outside("handler(0, 1, 9, ", ", 8)=false", -1, 51);
        outside("handler(0, 1, 9, 7, ", ")=false", 0, 51);
        // "(all are looked at for every KIND)"
        outside("handler(0, 2, 9, ", ", 8)=false", -1, 51);
        outside("handler(0, 2, 9, 7, ", ")=false", 0, 51);
        outside("limit(", ", 5, 1, 3)=false", -1, 8);
        outside("limit(0, ", ", 1, 3)=false", -1, 61);
        outside("limit(0, 5, ", ", 3)=false", -2, 8);
        outside("limit(0, 5, 1, ", ")=false", -1, 61);
        outside("step(", ", 0, 1)=REFUSED", -1, 8);
        outside("step(0, ", ", 1)=REFUSED", -1, 10);
        int[] tooSmall = {0, 0, 0, 0, 0, -1, -1, -1, 0, -1};
        int[] tooLarge = {21, 21, 21, 31, 0, 4, 4, 8, 0, 2};
        for (int op = 0; op <= 9; op++) {
            if (op != 4 && op != 8) {
                outside("step(0, " + op + ", ", ")=REFUSED", tooSmall[op], tooLarge[op]);
            }
        }
        outside("ceiling(", ", 4)=false", -1, 4);
        outside("ceiling(1, ", ")=false", 0, 10);
        outside("frame(", ", 4)=false", -1, 4);
        outside("frame(0, ", ")=false", -1, 31);
        outside("place(", ", 1)=REFUSED", -1, 4);
        outside("place(0, ", ")=REFUSED", -1, 8);
        outside("begin(", ", 5)=REFUSED", -1, 2);
        outside("begin(1, ", ")=REFUSED", -1, 101);
        outside("begin(0, ", ")=REFUSED", -1, 101);
        outside("run(", ")=REFUSED", 0, 21);
        outside("call(", ")=REFUSED", -1, 8);
        outside("of(", ", 0)=REFUSED", -1, 8);
        outside("of(0, ", ")=REFUSED", -1, 16);
        outside("memory(", ", 0)=REFUSED", -1, 8);
        outside("memory(0, ", ")=REFUSED", -1, 6);
        outside("desk(", ")=REFUSED", -1, 14);
        outside("event(", ")=NONE", -1, 32);
    }

    private static void outside(String before, String behind, int tooSmall, int tooLarge) {
        everywhere(before + tooSmall + behind);
        everywhere(before + tooLarge + behind);
        everywhere(before + "MAX" + behind);
        everywhere(before + "MIN" + behind);
    }

    private static void notThere() {
        for (int h = 3; h <= 7; h++) {
            everywhere("limit(" + h + ", 5, 1, 3)=false");
            everywhere("step(" + h + ", 0, 1)=REFUSED");
            everywhere("call(" + h + ")=REFUSED");
            everywhere("of(" + h + ", 8)=REFUSED");
            everywhere("memory(" + h + ", 0)=REFUSED");
        }
        // Not CALLED by KIND.
        everywhere("call(1)=REFUSED");
        changesNothing(SETUP, "place(1, 0)=NONE place(3, 7)=NONE");
        changesNothing(SETUP_AGAIN, "place(1, 0)=NONE place(3, 7)=NONE");
        // Several are not as they must be: REFUSED all the same.
        for (String far : FAR) {
            everywhere("step(3, " + far + ", " + far + ")=REFUSED");
            everywhere("place(" + far + ", " + far + ")=REFUSED");
            everywhere("place(1, " + far + ")=REFUSED");
            everywhere("begin(" + far + ", " + far + ")=REFUSED");
            everywhere("of(7, " + far + ")=REFUSED");
            everywhere("memory(7, " + far + ")=REFUSED");
            everywhere("memory(" + far + ", " + far + ")=REFUSED");
            everywhere("handler(" + far + ", " + far + ", " + far + ", " + far + ", " + far + ")=false");
            everywhere("limit(" + far + ", " + far + ", MAX, " + far + ")=false");
            everywhere("ceiling(" + far + ", " + far + ")=false");
            everywhere("frame(" + far + ", " + far + ")=false");
        }
    }

    private static void notInSetup() {
        for (String before : new String[] {RUNS_ONE, RUNS_ZERO, ENDING}) {
            changesNothing(before, "handler(0, 1, 9, 7, 8)=false");
            changesNothing(before, "handler(7, 2, 9, 0, 1)=false of(7, 0)=REFUSED");
            changesNothing(before, "limit(0, 5, 1, 3)=false");
            changesNothing(before, "step(0, 0, 1)=NONE");
            changesNothing(before, "ceiling(1, 9)=false");
            changesNothing(before, "frame(0, 9)=false");
            changesNothing(before, "frame(0, 0)=false");
            changesNothing(before, "frame(1, 2)=false");
            changesNothing(before, "place(0, 2)=NONE");
            changesNothing(before, "place(1, 2)=NONE");
            changesNothing(before, "begin(1, 5)=NONE");
            changesNothing(before, "begin(0, 5)=NONE");
        }
    }

    private static void onlyInSetup() {
        for (String before : new String[] {SETUP, SETUP_AGAIN}) {
            changesNothing(before, "run(1)=NONE run(20)=NONE");
            changesNothing(before, "stop()=false");
            changesNothing(before, "call(0)=NONE call(2)=NONE");
            changesNothing(before + "frame(0, 0) frame(2, 0) ", "begin(0, 5)=NONE begin(0, 100)=NONE");
        }
    }

    private static void notRunning() {
        changesNothing(ENDING, "stop()=false");
        changesNothing(ENDING, "call(0)=NONE call(2)=NONE");
        changesNothing(ENDING, "call(1)=REFUSED");
    }

    private static void fullOnes() {
        String tenSteps = LAID_DOWN + "step(0, 0, 1) step(0, 0, 1) step(0, 0, 1) step(0, 0, 1) step(0, 0, 1) step(0, 0, 1) ";
        changesNothing(tenSteps, "step(0, 0, 1)=FULL step(0, 8, 0)=FULL");
        changesNothing(tenSteps, "step(0, 0, 21)=REFUSED step(0, 10, 1)=REFUSED");
        changesNothing(tenSteps + "begin(1, 9) ", "step(0, 0, 1)=NONE step(0, 0, 0)=REFUSED");
        String fourPlaces = LAID_DOWN + "place(0, 1) place(0, 1) ";
        changesNothing(fourPlaces, "place(0, 0)=FULL place(0, 7)=FULL");
        changesNothing(fourPlaces, "place(0, 8)=REFUSED place(0, -1)=REFUSED");
        changesNothing(fourPlaces + "begin(0, 9) ", "place(0, 0)=NONE place(0, 8)=REFUSED");
        String fourReleases = LAID_DOWN + "begin(1, 40) call(2) call(2) call(2) call(2) ";
        changesNothing(fourReleases, "call(1)=REFUSED call(3)=REFUSED");
        droppedIsCounted(fourReleases);
    }

    /** "FULL if its RELEASE was DROPPED (which is counted)": the count and the EVENT, and no more. */
    private static void droppedIsCounted(String fourReleases) {
        Script script = new Script("terms, answers: dropped");
        script.about("FULL if its RELEASE was DROPPED (which is counted).");
        script.fresh(fourReleases + "of(2, 11)=0 event(0)=10 event(3)=10 event(4)=NONE call(2)=FULL of(2, 11)=1 of(2, 3)=4 of(2, 8)=4"
                + " of(2, 7)=0 desk(3)=4 desk(4)=2 memory(2, 0)=NONE event(0)=50 event(1)=10 event(4)=10 event(5)=NONE call(2)=FULL"
                + " of(2, 11)=2 event(0)=50 event(1)=50 run(1)=1 of(2, 9)=4 of(2, 11)=2 desk(12)=0");
        script.end();
    }

    /** What only looks changes nothing, whatever it answers. */
    private static void looks() {
        for (int what = 0; what <= 15; what++) {
            everywhere("of(0, " + what + ") of(1, " + what + ") of(2, " + what + ")");
            everywhere("memory(0, " + what + ") memory(1, " + what + ") desk(" + what + ") event(" + 2 * what + ")");
        }
    }
}
