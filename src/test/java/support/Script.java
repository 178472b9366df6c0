import java.util.ArrayList;
import java.util.Arrays;
import java.util.List;
import java.util.regex.Matcher;
import java.util.regex.Pattern;

/**
 * Runs of calls written as text: "begin(1, 10)=1 run(1)=1 desk(4)=NONE". A call without "=" may
 * answer anything; true counts 1 and false 0.
 */
final class Script {
    private static final Pattern CALL =
            Pattern.compile("\\s*(\\w+)\\(([^)]*)\\)(?:=(-?\\w+))?");

    /** What an object answers behind so many calls is free. */
    static final int CALLS_OF_AN_OBJECT = 512;

    /** One call; want is null if any answer is fine. */
    record Call(String method, int[] args, String want) {
        int on(MissionDesk desk) {
            return answer(desk, method, args);
        }

        boolean isDue(int got) {
            return want == null || got == number(want);
        }

        @Override
        public String toString() {
            return method + Arrays.toString(args);
        }
    }

    private final String name;
    private String sentence = "";
    private MissionDesk desk = new MissionDesk();
    private int callsOfObject;
    private int calls;
    private int wrong;

    Script(String name) {
        this.name = name;
    }

    /** The sentence of the document that the runs behind it are for; told with a wrong answer. */
    Script about(String sentence) {
        this.sentence = sentence;
        return this;
    }

    /** Goes on with the object of the last part. */
    Script then(String text) {
        for (Call call : calls(text)) {
            check(call);
        }
        return this;
    }

    static List<Call> calls(String text) {
        List<Call> calls = new ArrayList<>();
        Matcher matcher = CALL.matcher(text);
        int at = 0;
        while (at < text.length() && !text.substring(at).isBlank()) {
            if (!matcher.find(at) || matcher.start() != at) {
                throw new IllegalArgumentException("not a call: " + text.substring(at));
            }
            at = matcher.end();
            calls.add(new Call(matcher.group(1), numbers(matcher.group(2)), matcher.group(3)));
        }
        return calls;
    }

    /** A run on a new object. */
    Script fresh(String text) {
        desk = new MissionDesk();
        callsOfObject = 0;
        return then(text);
    }

    /** Goes on with the same part again and again. */
    Script times(int n, String text) {
        for (int i = 0; i < n; i++) {
            then(text);
        }
        return this;
    }

    private void check(Call call) {
        calls++;
        callsOfObject++;
        if (callsOfObject > CALLS_OF_AN_OBJECT) {
            throw new IllegalStateException(name + ": nothing is promised for so many calls");
        }
        int got = call.on(desk);
        if (!call.isDue(got)) {
            wrong++;
            System.out.println(name + ": " + call + " answered " + got + ", due is " + call.want());
            if (!sentence.isEmpty()) {
                System.out.println("   the document: " + sentence);
            }
            new Throwable().printStackTrace(System.out);
        }
    }

    /** Ends the program with exit code 1 if an answer was wrong. */
    void end() {
        System.out.println(name + ": " + calls + " calls, " + wrong + " wrong");
        if (wrong != 0) {
            System.exit(1);
        }
    }

    private static int[] numbers(String text) {
        if (text.isBlank()) {
            return new int[0];
        }
        String[] parts = text.split(",");
        int[] numbers = new int[parts.length];
        for (int i = 0; i < parts.length; i++) {
            numbers[i] = number(parts[i].trim());
        }
        return numbers;
    }

    private static int number(String text) {
        switch (text) {
            case "REFUSED": return MissionDesk.REFUSED;
            case "NONE": return MissionDesk.NONE;
            case "FULL": return MissionDesk.FULL;
            case "true": return 1;
            case "false": return 0;
            case "MAX": return Integer.MAX_VALUE;
            case "MIN": return Integer.MIN_VALUE;
            default: return Integer.parseInt(text);
        }
    }

    static int answer(MissionDesk x, String method, int[] a) {
        switch (method) {
            case "handler": return x.handler(a[0], a[1], a[2], a[3], a[4]) ? 1 : 0;
            case "limit": return x.limit(a[0], a[1], a[2], a[3]) ? 1 : 0;
            case "step": return x.step(a[0], a[1], a[2]);
            case "ceiling": return x.ceiling(a[0], a[1]) ? 1 : 0;
            case "frame": return x.frame(a[0], a[1]) ? 1 : 0;
            case "place": return x.place(a[0], a[1]);
            case "begin": return x.begin(a[0], a[1]);
            case "run": return x.run(a[0]);
            case "call": return x.call(a[0]);
            case "stop": return x.stop() ? 1 : 0;
            case "of": return x.of(a[0], a[1]);
            case "memory": return x.memory(a[0], a[1]);
            case "desk": return x.desk(a[0]);
            case "event": return x.event(a[0]);
            default: throw new IllegalArgumentException("no such call: " + method);
        }
    }
}
