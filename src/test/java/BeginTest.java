import java.util.Arrays;

/** Promise 2: begin. */
final class BeginTest {
    private static final int MIN = Integer.MIN_VALUE;
    private static final int MAX = Integer.MAX_VALUE;

    private static final Expect expect = new Expect();

    public static void main(String[] args) {
        leftAndTopFromNoughtToAMillion();
        wideAndHighFromOneTo1024();
        atMost16384Numbers();
        levelsFromNoughtTo20();
        severalWrongAtOnce();
        aRefusedBeginChangesNothing();
        aNewPlaneAfterAnyOther();
        allNumbersAreNought();
        theKindIsTheNewOne();
        expect.end();
    }

    private static void allowed(int... a) {
        for (boolean real : new boolean[] {false, true}) {
            String what = "begin(" + Arrays.toString(a) + ", " + real + ")";
            PlaneSplitter p = new PlaneSplitter();
            p.begin(a[0], a[1], a[2], a[3], a[4], real);
            int right = a[0] + a[2] - 1;
            int bottom = a[1] + a[3] - 1;
            expect.equal(what + ": the first number", p.at(a[0], a[1]), 0);
            p.set(right, bottom, 5);
            expect.equal(what + ": the last number", p.at(right, bottom), 5);
            expect.equal(what + ": all the others are 0", p.sum(), real ? 40 : 5);
            hasLevels(what, p, a[4]);
        }
    }

    /** Of the last level there is a band 0, and of the next one there is no band at all. */
    private static void hasLevels(String what, PlaneSplitter p, int levels) {
        for (int level = -1; level <= 22; level++) {
            int l = level;
            if (level == levels) {
                p.edge(level, 0, 0);
            } else {
                expect.refusesArgument(what + ": band 0 of level " + level, p, q -> q.edge(l, 0, 0));
            }
        }
    }

    private static void refused(int... a) {
        for (boolean real : new boolean[] {false, true}) {
            expect.refusesArgument("begin(" + Arrays.toString(a) + ", " + real + ")", State.WHOLE_INTS,
                    p -> p.begin(a[0], a[1], a[2], a[3], a[4], real));
        }
    }

    private static void leftAndTopFromNoughtToAMillion() {
        for (int v : new int[] {0, 1, 999999, 1000000}) {
            allowed(v, 7, 3, 2, 1);
            allowed(7, v, 3, 2, 1);
        }
        allowed(1000000, 1000000, 1024, 16, 20);
        allowed(1000000, 1000000, 16, 1024, 20);
        for (int v : new int[] {-1, -2, MIN, MIN + 1, 1000001, 1000002, 16777216, MAX}) {
            refused(v, 7, 3, 2, 1);
            refused(7, v, 3, 2, 1);
        }
    }

    private static void wideAndHighFromOneTo1024() {
        for (int v : new int[] {1, 2, 1023, 1024}) {
            allowed(3, 7, v, 1, 1);
            allowed(3, 7, 1, v, 1);
        }
        for (int v : new int[] {0, -1, -3, MIN, 1025, 1026, 16384, MAX}) {
            refused(3, 7, v, 1, 1);
            refused(3, 7, 1, v, 1);
        }
    }

    private static void atMost16384Numbers() {
        for (int wide = 1; wide <= 1024; wide++) {
            int high = Math.min(1024, 16384 / wide);
            PlaneSplitter p = new PlaneSplitter();
            p.begin(0, 0, wide, high, 0, false);
            p.set(wide - 1, high - 1, 9);
            expect.equal(wide + " wide and " + high + " high", p.sum(), 9);
            if (high < 1024) {
                int w = wide;
                expect.refusesArgument(wide + " wide and " + (high + 1) + " high", p,
                        q -> q.begin(0, 0, w, high + 1, 0, false));
                expect.equal("it is " + wide + " wide still", p.edge(0, 0, 2), wide);
                expect.equal("it is " + high + " high still", p.edge(0, 0, 3), high);
            }
        }
        allowed(0, 0, 128, 128, 1);
        allowed(0, 0, 16, 1024, 1);
        allowed(0, 0, 1024, 16, 1);
        // 113 times 145 is one more than 16,384.
        refused(0, 0, 113, 145, 0);
        refused(0, 0, 145, 113, 0);
        refused(0, 0, 128, 129, 0);
        refused(0, 0, 1024, 17, 0);
        refused(0, 0, 17, 1024, 0);
        refused(0, 0, 1024, 1024, 0);
    }

    private static void levelsFromNoughtTo20() {
        for (int levels : new int[] {0, 1, 19, 20}) {
            allowed(3, 7, 4, 5, levels);
        }
        for (int levels : new int[] {-1, -2, MIN, 21, 22, 32, MAX}) {
            refused(3, 7, 4, 5, levels);
        }
    }

    private static void severalWrongAtOnce() {
        refused(-1, -1, 0, 0, -1);
        refused(0, 0, -4, -4, 0);
        // Products that would wrap round to 0 or to a small number.
        refused(0, 0, 65536, 65536, 0);
        refused(0, 0, 65537, 65535, 0);
        refused(0, 0, MAX, MAX, 0);
        refused(0, 0, MIN, MIN, 0);
        refused(0, 0, MIN, 2, 0);
        refused(MAX, MAX, 1, 1, 0);
    }

    private static void aRefusedBeginChangesNothing() {
        int[][] wrong = {
            {-1, 2, 2, 2, 1}, {1000001, 2, 2, 2, 1}, {2, -1, 2, 2, 1}, {2, 1000001, 2, 2, 1}, {2, 2, 0, 2, 1},
            {2, 2, 1025, 2, 1}, {2, 2, 2, 0, 1}, {2, 2, 2, 1025, 1}, {2, 2, 129, 128, 1}, {2, 2, 2, 2, -1},
            {2, 2, 2, 2, 21},
        };
        for (State state : State.values()) {
            for (int[] a : wrong) {
                for (boolean real : new boolean[] {false, true}) {
                    expect.refusesArgument("begin(" + Arrays.toString(a) + ", " + real + ")", state,
                            p -> p.begin(a[0], a[1], a[2], a[3], a[4], real));
                }
            }
        }
    }

    /** After begin nothing is left of the plane before: it is as on a new object. */
    private static void aNewPlaneAfterAnyOther() {
        int[][] shapes = {{3, 5, 7, 6, 2}, {0, 0, 1, 1, 0}, {9, 8, 6, 7, 3}, {5, 4, 1, 3, 2}, {1000000, 0, 128, 128, 1}};
        for (State state : State.values()) {
            for (int[] a : shapes) {
                for (boolean real : new boolean[] {false, true}) {
                    PlaneSplitter p = state.make();
                    p.begin(a[0], a[1], a[2], a[3], a[4], real);
                    PlaneSplitter q = new PlaneSplitter();
                    q.begin(a[0], a[1], a[2], a[3], a[4], real);
                    String what = "begin(" + Arrays.toString(a) + ", " + real + ") after " + state;
                    expect.equal(what + ": sum", p.sum(), 0);
                    expect.equal(what + ": whole", p.at(a[0], a[1]), 0);
                    expect.isTrue(what, State.allOf(p).equals(State.allOf(q)));
                }
            }
        }
    }

    /** Also where the plane before had a row of numbers that is used again. */
    private static void allNumbersAreNought() {
        for (boolean real : new boolean[] {false, true}) {
            for (int wide : new int[] {1, 10, 29, 30, 31, 40}) {
                PlaneSplitter p = new PlaneSplitter();
                p.begin(1, 1, 30, 4, 2, real);
                p.fill(7, 11, 13);
                p.begin(1, 1, wide, 4, 2, real);
                for (int y = 1; y < 5; y++) {
                    for (int x = 1; x < 1 + wide; x++) {
                        expect.equalReal("0 at " + x + ", " + y, p.real(x, y), 0.0f);
                    }
                }
            }
        }
    }

    private static void theKindIsTheNewOne() {
        for (State state : State.values()) {
            for (boolean real : new boolean[] {false, true}) {
                PlaneSplitter p = state.make();
                p.begin(2, 2, 1, 1, 0, real);
                p.split();
                p.put(0, 0, 2, 2, -2.75f);
                expect.equalReal("of reals " + real + " after " + state, p.bandReal(0, 0, 2, 2), real ? -2.75f : -2f);
            }
        }
    }
}
