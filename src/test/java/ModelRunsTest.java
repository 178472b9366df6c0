import java.util.ArrayList;
import java.util.Arrays;
import java.util.List;

/** Runs of drawn calls: MissionDesk and Model must answer alike, and look alike in the end. */
public final class ModelRunsTest {
    private static final int RUNS = 20000;
    /** A change makes at most 13 calls and the last look 223, so that an object has at most 512. */
    private static final int CALLS_OF_CHANGES = 270;
    private static final int[] ODD = {-1, -2, 8, 10, 21, 31, 61, 101, Integer.MAX_VALUE, Integer.MIN_VALUE};

    private long seed;
    private MissionDesk desk;
    private Model model;
    private int calls;
    private final List<String> told = new ArrayList<>();
    private final long[] seen = new long[40];

    public static void main(String[] args) {
        ModelRunsTest test = new ModelRunsTest();
        for (int run = 0; run < RUNS; run++) {
            test.oneRun(run);
        }
        test.everythingWasSeen();
        System.out.println("model runs: " + RUNS + " runs answered alike");
    }

    private void oneRun(int run) {
        seed = 0x5DEECE66DL * (run + 1) + 11;
        desk = new MissionDesk();
        model = new Model();
        told.clear();
        calls = 0;
        layDown(run % 4 == 3 ? 3 : 8);
        while (calls < CALLS_OF_CHANGES) {
            change();
            drawnLook();
        }
        lookAtAll();
        for (int sort = 8; sort < 16; sort++) {
            for (int h = 0; h < 8; h++) {
                seen[sort] += model.counts[h][sort];
            }
        }
        seen[0] += model.overruns;
        seen[1] += model.gone;
        seen[2] += model.points;
        seen[3] += model.missions;
    }

    private void everythingWasSeen() {
        int[] sorts = {0, 1, 2, 3, 8, 9, 10, 11, 12, 13, 14, 15, 20, 21, 22, 23};
        for (int sort : sorts) {
            if (seen[sort] < 50) {
                System.out.println("model runs: too few of sort " + sort + ": " + Arrays.toString(seen));
                System.exit(1);
            }
        }
    }

    private int draw(int bound) {
        seed = seed * 6364136223846793005L + 1442695040888963407L;
        return (int) ((seed >>> 33) % bound);
    }

    private int draw(int from, int to) {
        return from + draw(to - from + 1);
    }

    private void layDown(int handlers) {
        for (int h = 0; h < handlers; h++) {
            if (draw(5) > 0) {
                newHandler(h);
            }
        }
        for (int m = 0; m < 4; m++) {
            both("ceiling", m, draw(3, 9));
        }
        for (int f = 0; f < 4; f++) {
            if (draw(3) > 0) {
                both("frame", f, draw(1, draw(2) == 0 ? 3 : 12));
                for (int p = draw(5); p > 0; p--) {
                    both("place", f, draw(8));
                }
            }
        }
        both("begin", draw(2), draw(0, 60));
    }

    private void newHandler(int h) {
        both("handler", h, draw(4) == 0 ? 0 : draw(3), draw(1, 9), draw(0, 8), draw(2) == 0 ? draw(1, 50) : draw(2, 15));
        if (draw(2) == 0) {
            both("limit", h, draw(0, 9), draw(-1, 7), draw(0, 40));
        }
        for (int n = draw(11); n > 0; n--) {
            drawnStep(h);
        }
    }

    private void drawnStep(int h) {
        int op = draw(10);
        if (op == 8 && draw(4) > 0) {
            op = 0;
        }
        if (op == 4 && draw(3) > 0) {
            op = 1;
        }
        switch (op) {
            case 0: both("step", h, 0, draw(1, 4)); break;
            case 1: case 2: both("step", h, op, draw(1, 6)); break;
            case 3: both("step", h, 3, draw(1, 12)); break;
            case 5: case 6: both("step", h, op, draw(4)); break;
            case 7: both("step", h, 7, draw(8)); break;
            case 9: both("step", h, 9, draw(2)); break;
            default: both("step", h, op, draw(-5, 5));
        }
    }

    private void change() {
        switch (draw(20)) {
            case 0: case 1: case 2: case 3: case 4: both("run", draw(1, 3)); break;
            case 5: both("run", draw(1, 20)); break;
            case 6: case 7: case 8: case 9: both("call", draw(8)); break;
            case 10: both("begin", draw(2), draw(0, 60)); break;
            case 11: if (draw(3) == 0) both("stop"); break;
            case 12: newHandler(draw(8)); break;
            case 13: drawnStep(draw(8)); break;
            case 14: both("limit", draw(8), draw(0, 9), draw(-1, 7), draw(0, 40)); break;
            case 15: both("ceiling", draw(4), draw(1, 9)); break;
            case 16: both("frame", draw(4), draw(0, 6)); break;
            case 17: both("place", draw(4), draw(8)); break;
            case 18: both("begin", draw(2), draw(0, 60)); break;
            default: oddCall();
        }
    }

    private void oddCall() {
        String[] methods = {"handler", "limit", "step", "ceiling", "frame", "place", "begin", "run", "call", "of",
            "memory", "desk", "event"};
        int[] arguments = {5, 4, 3, 2, 2, 2, 2, 1, 1, 2, 2, 1, 1};
        int chosen = draw(methods.length);
        int[] numbers = new int[arguments[chosen]];
        for (int i = 0; i < numbers.length; i++) {
            numbers[i] = draw(3);
        }
        numbers[draw(numbers.length)] = ODD[draw(ODD.length)];
        both(methods[chosen], numbers);
    }

    private void both(String method, int... numbers) {
        told.add(method + Arrays.toString(numbers));
        int want = model.answer(method, numbers);
        int got = Script.answer(desk, method, numbers);
        if (want < 0 && want >= -3) {
            seen[20 - want - 1]++;
        } else if (method.equals("run") && want < numbers[0]) {
            seen[23]++;
        }
        alike(method, numbers, want, got);
    }

    private void drawnLook() {
        switch (draw(4)) {
            case 0: both("desk", draw(14)); break;
            case 1: both("of", draw(8), draw(16)); break;
            case 2: both("memory", draw(8), draw(6)); break;
            default: both("event", draw(32));
        }
    }

    private void lookAtAll() {
        for (int what = 0; what <= 13; what++) {
            alike("desk", what);
        }
        for (int h = 0; h < 8; h++) {
            for (int what = 0; what < 16; what++) {
                alike("of", h, what);
            }
            for (int what = 0; what < 6; what++) {
                alike("memory", h, what);
            }
        }
        for (int k = 0; k < 33; k++) {
            alike("event", k);
        }
    }

    private void alike(String method, int... numbers) {
        alike(method, numbers, model.answer(method, numbers), Script.answer(desk, method, numbers));
    }

    private void alike(String method, int[] numbers, int want, int got) {
        calls++;
        if (calls > Script.CALLS_OF_AN_OBJECT) {
            throw new IllegalStateException("nothing is promised for so many calls");
        }
        if (want != got) {
            System.out.println("model runs: after " + told);
            System.out.println(method + Arrays.toString(numbers) + " answered " + got + ", the model " + want);
            System.exit(1);
        }
    }
}
