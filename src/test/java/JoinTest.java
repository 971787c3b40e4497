/** Promises 6 and 12: joining, and putting numbers into bands. */
final class JoinTest {
    private static final Expect expect = new Expect();

    public static void main(String[] args) {
        intsComeBackExactly();
        realsComeBackNearly();
        aLowerResolutionIsThatOfTheBand();
        joinOfOnePlace();
        joinOfReals();
        rowsAreJoinedFirst();
        levelsStay();
        joinRefuses();
        putIsRead();
        putRefuses();
        expect.end();
    }

    private static final int[][] SHAPES = {
        {0, 0, 8, 8, 3}, {1, 1, 8, 8, 3}, {3, 5, 7, 6, 2}, {5, 4, 1, 9, 4}, {4, 5, 9, 1, 4}, {5, 5, 1, 1, 20},
        {1000000, 999999, 33, 17, 20}, {0, 0, 128, 128, 7}, {7, 0, 1024, 16, 12}, {2, 3, 2, 2, 1}, {9, 9, 5, 5, 0},
    };

    private static void intsComeBackExactly() {
        PlaneSplitter p = new PlaneSplitter();
        for (int[] s : SHAPES) {
            p.begin(s[0], s[1], s[2], s[3], s[4], false);
            p.fill(12345, 777, 4321);
            int whole = p.sum();
            int first = p.at(s[0], s[1]);
            int last = p.at(s[0] + s[2] - 1, s[1] + s[3] - 1);
            p.split();
            int split = p.sum();
            p.join(s[4]);
            String what = java.util.Arrays.toString(s);
            expect.equal(what + ": sum", p.sum(), whole);
            expect.equal(what + ": first", p.at(s[0], s[1]), first);
            expect.equal(what + ": last", p.at(s[0] + s[2] - 1, s[1] + s[3] - 1), last);
            p.split();
            expect.equal(what + ": split again", p.sum(), split);
        }
    }

    private static void realsComeBackNearly() {
        PlaneSplitter p = new PlaneSplitter();
        for (int[] s : SHAPES) {
            p.begin(s[0], s[1], s[2], s[3], s[4], true);
            p.fill(12345, 777, 4321);
            float first = p.real(s[0], s[1]);
            float last = p.real(s[0] + s[2] - 1, s[1] + s[3] - 1);
            p.split();
            p.join(s[4]);
            String what = java.util.Arrays.toString(s);
            expect.isTrue(what + ": first", Math.abs(p.real(s[0], s[1]) - first) < 1f);
            expect.isTrue(what + ": last", Math.abs(p.real(s[0] + s[2] - 1, s[1] + s[3] - 1) - last) < 1f);
        }
    }

    /** Joined to r, a plane is band 0 of a plane split in as many levels as are not undone. */
    private static void aLowerResolutionIsThatOfTheBand() {
        PlaneSplitter p = new PlaneSplitter();
        PlaneSplitter q = new PlaneSplitter();
        for (int[] s : SHAPES) {
            for (int r = 0; r <= s[4]; r++) {
                p.begin(s[0], s[1], s[2], s[3], s[4], false);
                p.fill(12345, 777, 4321);
                p.split();
                p.join(r);
                int level = s[4] - r;
                q.begin(s[0], s[1], s[2], s[3], level, false);
                q.fill(12345, 777, 4321);
                q.split();
                compareWithBand(p, q, level);
            }
        }
    }

    private static void compareWithBand(PlaneSplitter p, PlaneSplitter q, int level) {
        int left = q.edge(level, 0, 0);
        int top = q.edge(level, 0, 1);
        int wide = q.edge(level, 0, 2);
        int high = q.edge(level, 0, 3);
        int sum = 0;
        for (int y = top; y < top + high; y++) {
            for (int x = left; x < left + wide; x++) {
                expect.equal("resolution at " + x + ", " + y, p.at(x, y), q.band(level, 0, x, y));
                sum = 31 * sum + p.at(x, y);
            }
        }
        expect.equal("the sum of the resolution", p.sum(), sum);
        expect.refusesArgument("right of it", () -> p.at(left + wide, top));
        expect.refusesArgument("below it", () -> p.at(left, top + high));
        expect.refusesArgument("left of it", () -> p.at(left - 1, top));
        expect.refusesArgument("above it", () -> p.at(left, top - 1));
    }

    private static void joinOfOnePlace() {
        PlaneSplitter p = new PlaneSplitter();
        p.begin(4, 7, 1, 1, 1, false);
        p.split();
        p.put(1, 2, 2, 3, -7f);
        p.join(1);
        expect.equal("half goes down", p.at(4, 7), -4);
        p.begin(5, 7, 1, 1, 1, false);
        p.split();
        p.put(1, 3, 2, 3, -7f);
        p.join(1);
        expect.equal("half goes down twice", p.at(5, 7), -2);
        p.begin(5, 7, 1, 1, 1, true);
        p.split();
        p.put(1, 3, 2, 3, -7f);
        p.join(1);
        expect.equalReal("of reals it does not", p.real(5, 7), -1.75f);
        p.begin(4, 8, 1, 1, 1, false);
        p.set(4, 8, -7);
        p.split();
        p.join(1);
        expect.equal("an even place", p.at(4, 8), -7);
        p.split();
        p.join(0);
        expect.equal("at its place of the resolution", p.at(2, 4), -7);
    }

    private static void joinOfReals() {
        PlaneSplitter p = new PlaneSplitter();
        p.begin(2, 0, 2, 1, 1, true);
        p.split();
        p.put(1, 0, 1, 0, 10.3f);
        p.put(1, 1, 1, 0, 3.7f);
        p.join(1);
        float even = 10.3f * 1.230174104914001f;
        float odd = 3.7f * 0.8128930661159609f;
        even = even - 0.443506852043971f * (odd + odd);
        odd = odd - 0.882911075530934f * (even + even);
        even = even - -0.052980118572961f * (odd + odd);
        odd = odd - -1.586134342059924f * (even + even);
        expect.equalReal("joined reals: even", p.real(2, 0), even);
        expect.equalReal("joined reals: odd", p.real(3, 0), odd);
    }

    private static void rowsAreJoinedFirst() {
        PlaneSplitter p = new PlaneSplitter();
        p.begin(0, 0, 2, 2, 1, false);
        p.split();
        p.put(1, 1, 0, 0, 3f);
        p.put(1, 2, 0, 0, 1f);
        p.join(1);
        // Rows: (0, 3) to (-2, 1), (1, 0) to (1, 1); then columns: (-2, 1) to (-3, -2), (1, 1) to (0, 1).
        expect.equal("joined at 0, 0", p.at(0, 0), -3);
        expect.equal("joined at 1, 0", p.at(1, 0), 0);
        expect.equal("joined at 0, 1", p.at(0, 1), -2);
        expect.equal("joined at 1, 1", p.at(1, 1), 1);
    }

    private static void levelsStay() {
        PlaneSplitter p = new PlaneSplitter();
        p.begin(0, 0, 16, 16, 3, false);
        p.fill(5, 6, 7);
        p.split();
        p.join(1);
        expect.equal("levels stay: WIDE", p.edge(1, 1, 2), 2);
        expect.equal("levels stay: the last", p.edge(3, 0, 2), 1);
        expect.refusesArgument("levels stay: no more", () -> p.edge(4, 1, 2));
        p.split();
        p.join(3);
        expect.equal("levels stay: joined in all", p.edge(1, 1, 2), 2);
        p.split();
        p.join(0);
        expect.equal("levels stay: at last", p.edge(3, 1, 2), 0);
        p.split();
        p.join(0);
        expect.equal("one place is left", p.at(0, 0), p.sum());
    }

    private static void joinRefuses() {
        PlaneSplitter p = new PlaneSplitter();
        p.begin(3, 5, 7, 6, 2, false);
        p.fill(3, 4, 5);
        int whole = p.sum();
        expect.refusesState("join of a whole plane", () -> p.join(0));
        expect.refusesState("join of a whole plane", () -> p.join(2));
        expect.refusesArgument("the argument is looked at first", () -> p.join(3));
        expect.equal("neither changes a number", p.sum(), whole);
        p.split();
        int split = p.sum();
        for (int r : new int[] {-1, 3, 20, Integer.MAX_VALUE, Integer.MIN_VALUE}) {
            expect.refusesArgument("join(" + r + ")", () -> p.join(r));
        }
        expect.equal("no number changes", p.sum(), split);
        expect.equal("it is split still", p.band(1, 3, 1, 2), 5);
    }

    private static void putIsRead() {
        float[] values = {0f, -0.0f, 2.75f, -2.75f, 16777216f, -16777216f, 0.999f, 1e-40f, 16777215f};
        int[] ints = {0, 0, 2, -2, 16777216, -16777216, 0, 0, 16777215};
        PlaneSplitter p = new PlaneSplitter();
        for (boolean real : new boolean[] {false, true}) {
            p.begin(3, 5, 7, 6, 2, real);
            p.split();
            for (int i = 0; i < values.length; i++) {
                p.put(1, 3, 2, 4, values[i]);
                expect.equal("put " + values[i], p.band(1, 3, 2, 4), ints[i]);
                expect.equalReal("put " + values[i], p.bandReal(1, 3, 2, 4), real ? values[i] : ints[i]);
            }
            for (int level = 1; level <= 2; level++) {
                for (int band = level == 2 ? 0 : 1; band < 4; band++) {
                    eachPlaceHasItsOwn(p, level, band);
                }
            }
        }
    }

    private static void eachPlaceHasItsOwn(PlaneSplitter p, int level, int band) {
        int left = p.edge(level, band, 0);
        int top = p.edge(level, band, 1);
        int right = left + p.edge(level, band, 2);
        int bottom = top + p.edge(level, band, 3);
        for (int round = 0; round < 2; round++) {
            for (int y = top; y < bottom; y++) {
                for (int x = left; x < right; x++) {
                    int v = 1000 * level + 100 * band + 10 * y + x;
                    if (round == 0) {
                        p.put(level, band, x, y, v);
                    } else {
                        expect.equal("what was put in band " + band, p.band(level, band, x, y), v);
                    }
                }
            }
        }
    }

    private static void putRefuses() {
        PlaneSplitter p = new PlaneSplitter();
        p.begin(3, 5, 7, 6, 2, false);
        p.fill(9, 8, 7);
        int whole = p.sum();
        expect.refusesState("put into a whole plane", () -> p.put(1, 1, 1, 3, 1f));
        expect.refusesArgument("the argument is looked at first", () -> p.put(1, 1, 0, 3, 1f));
        expect.equal("neither changes a number", p.sum(), whole);
        p.split();
        int split = p.sum();
        float[] wrong = {
            Float.NaN, Float.POSITIVE_INFINITY, Float.NEGATIVE_INFINITY, 16777218f, -16777218f, Float.MAX_VALUE,
        };
        for (float v : wrong) {
            expect.refusesArgument("put " + v, () -> p.put(1, 1, 1, 3, v));
        }
        int[][] nowhere = {
            {1, 0, 2, 3}, {0, 0, 3, 5}, {3, 1, 0, 0}, {1, 4, 1, 3}, {1, 1, 0, 3}, {1, 1, 5, 3}, {1, 1, 1, 2},
            {1, 1, 1, 6}, {2, 0, 0, 2}, {1, 3, Integer.MAX_VALUE, 2}, {Integer.MIN_VALUE, 1, 1, 3},
        };
        for (int[] a : nowhere) {
            expect.refusesArgument("put(" + java.util.Arrays.toString(a) + ")",
                    () -> p.put(a[0], a[1], a[2], a[3], 1f));
        }
        expect.equal("none changes a number", p.sum(), split);
    }
}
