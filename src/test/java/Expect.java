/** Counts the answers that are not as due, and tells each of them. */
final class Expect {
    private int asked = 0;
    private int wrong = 0;

    void equal(String what, long got, long due) {
        tell(what, got == due, String.valueOf(got), String.valueOf(due));
    }

    /** Equal to the last bit, so that 0.0 and -0.0 are not the same. */
    void equalReal(String what, float got, float due) {
        boolean same = Float.floatToRawIntBits(got) == Float.floatToRawIntBits(due);
        tell(what, same, String.valueOf(got), String.valueOf(due));
    }

    void isTrue(String what, boolean got) {
        tell(what, got, String.valueOf(got), "true");
    }

    void refusesArgument(String what, Runnable call) {
        refuses(what, IllegalArgumentException.class, call);
    }

    void refusesState(String what, Runnable call) {
        refuses(what, IllegalStateException.class, call);
    }

    void end() {
        System.out.println(asked + " answers, " + wrong + " of them not as due");
        if (wrong != 0 || asked == 0) {
            System.exit(1);
        }
    }

    private void refuses(String what, Class<?> due, Runnable call) {
        Class<?> got = null;
        try {
            call.run();
        } catch (RuntimeException e) {
            got = e.getClass();
        }
        tell(what, got == due, String.valueOf(got), String.valueOf(due));
    }

    private void tell(String what, boolean asDue, String got, String due) {
        asked++;
        if (!asDue) {
            wrong++;
            System.out.println(what + " answered " + got + ", due is " + due);
        }
    }
}
