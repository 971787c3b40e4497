import java.util.List;

/** Counts the answers that are not as due, and tells each of them. */
final class Expect {
    private int asked = 0;
    private int wrong = 0;

    /** One call of the face, or some, on a plane. */
    interface Call {
        void on(PlaneSplitter p);
    }

    void equal(String what, long got, long due) {
        tell(what, got == due, String.valueOf(got), String.valueOf(due));
    }

    /** Equal to the last bit, so that 0.0 and -0.0 are not the same. */
    void equalReal(String what, float got, float due) {
        boolean same = Float.floatToRawIntBits(got) == Float.floatToRawIntBits(due);
        tell(what, same, String.valueOf(got), String.valueOf(due));
    }

    void isTrue(String what, boolean got) {
        tell(what, got, String.valueOf(got), "true");
    }

    void refusesArgument(String what, PlaneSplitter p, Call call) {
        refuses(what, IllegalArgumentException.class, p, call);
    }

    void refusesState(String what, PlaneSplitter p, Call call) {
        refuses(what, IllegalStateException.class, p, call);
    }

    /** The call throws on a plane in this state, and leaves the plane as one that had no such call. */
    void refusesArgument(String what, State state, Call call) {
        refuses(what, IllegalArgumentException.class, state, call);
    }

    void refusesState(String what, State state, Call call) {
        refuses(what, IllegalStateException.class, state, call);
    }

    /** The call does not throw on a plane in this state. */
    void allows(String what, State state, Call call) {
        tell(what + " in " + state, thrownBy(state.make(), call) == null, "an exception", "none");
    }

    void end() {
        System.out.println(asked + " answers, " + wrong + " of them not as due");
        if (wrong != 0 || asked == 0) {
            System.exit(1);
        }
    }

    private void refuses(String what, Class<?> due, PlaneSplitter p, Call call) {
        Class<?> got = thrownBy(p, call);
        tell(what, got == due, String.valueOf(got), String.valueOf(due));
    }

    private void refuses(String what, Class<?> due, State state, Call call) {
        PlaneSplitter p = state.make();
        refuses(what + " in " + state, due, p, call);
        List<String> after = State.allOf(p);
        List<String> without = State.allOf(state.make());
        for (int i = 0; i < Math.max(after.size(), without.size()); i++) {
            String one = i < after.size() ? after.get(i) : "nothing";
            String other = i < without.size() ? without.get(i) : "nothing";
            if (!one.equals(other)) {
                tell(what + " in " + state + " changes something, that", false, one, other);
                return;
            }
        }
        asked++;
    }

    private static Class<?> thrownBy(PlaneSplitter p, Call call) {
        try {
            call.on(p);
        } catch (RuntimeException e) {
            return e.getClass();
        }
        return null;
    }

    private void tell(String what, boolean asDue, String got, String due) {
        asked++;
        if (!asDue) {
            wrong++;
            System.out.println(what + " answered " + got + ", due is " + due);
        }
    }
}
