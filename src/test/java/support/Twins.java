/**
 * Two objects that go through the same calls, but for one call that only the second one gets: if
 * that call changes nothing, they answer alike for ever.
 */
final class Twins {
    private final MissionDesk plain = new MissionDesk();
    private final MissionDesk asked = new MissionDesk();
    private final String story;
    private int calls;
    private int wrong;

    Twins(String laidDown) {
        story = laidDown;
        both(laidDown);
    }

    int wrong() {
        return wrong;
    }

    /** One call on the second one alone. */
    Twins odd(String text) {
        for (Script.Call call : Script.calls(text)) {
            calls++;
            int got = call.on(asked);
            if (!call.isDue(got)) {
                tell(call + " answered " + got + ", due is " + call.want());
            }
        }
        return this;
    }

    /** Calls on both, which must answer alike. */
    Twins both(String text) {
        for (Script.Call call : Script.calls(text)) {
            alike(call.method(), call.args());
        }
        return this;
    }

    /** Everything that can be seen of the desk and of the handlers 0 to 2. */
    Twins look() {
        for (int what = 0; what <= 13; what++) {
            alike("desk", what);
        }
        for (int h = 0; h <= 2; h++) {
            for (int what = 0; what <= 15; what++) {
                alike("of", h, what);
            }
            for (int what = 0; what <= 5; what++) {
                alike("memory", h, what);
            }
        }
        for (int k = 0; k <= 31; k++) {
            alike("event", k);
        }
        return this;
    }

    private void alike(String method, int... numbers) {
        calls++;
        if (calls > Script.CALLS_OF_AN_OBJECT) {
            throw new IllegalStateException("nothing is promised for so many calls");
        }
        int want = Script.answer(plain, method, numbers);
        int got = Script.answer(asked, method, numbers);
        if (want != got) {
            tell(new Script.Call(method, numbers, null) + " answered " + got + ", without the odd call " + want);
        }
    }

    private void tell(String what) {
        wrong++;
        System.out.println("twins behind " + story);
        System.out.println("   " + what);
    }
}
