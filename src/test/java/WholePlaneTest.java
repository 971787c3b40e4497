/** Promises 1 to 4, 7 and 8: a plane that is whole. */
final class WholePlaneTest {
    private static final int LARGEST = 16777216;

    private static final Expect expect = new Expect();

    public static void main(String[] args) {
        aNewObject();
        beginRefuses();
        beginTakesItsEdges();
        beginForgets();
        setRefuses();
        setAndRead();
        fillNumbers();
        fillWraps();
        aRealIsReadAsAnInt();
        anIntIsReadAsTheNextFloat();
        readingRefuses();
        expect.end();
    }

    private static void aNewObject() {
        PlaneSplitter p = new PlaneSplitter();
        expect.equal("new: at(0, 0)", p.at(0, 0), 0);
        expect.equalReal("new: real(0, 0)", p.real(0, 0), 0.0f);
        expect.equal("new: sum()", p.sum(), 0);
        int[] due = {0, 0, 1, 1};
        for (int w = 0; w < 4; w++) {
            expect.equal("new: edge " + w, p.edge(0, 0, w), due[w]);
        }
        expect.refusesArgument("new: at(1, 0)", () -> p.at(1, 0));
        expect.refusesArgument("new: no level 1", () -> p.edge(1, 1, 0));
        expect.refusesState("new: is whole", () -> p.join(0));
        p.set(0, 0, 16777215);
        p.set(0, 0, 3);
        p.split();
        p.put(0, 0, 0, 0, 2.9f);
        expect.equalReal("new: of ints", p.bandReal(0, 0, 0, 0), 2.0f);
    }

    private static void beginRefuses() {
        PlaneSplitter p = new PlaneSplitter();
        p.begin(2, 3, 2, 2, 1, true);
        p.set(3, 4, 77);
        p.split();
        int before = p.sum();
        int[][] wrong = {
            {-1, 0, 1, 1, 0}, {1000001, 0, 1, 1, 0}, {0, -1, 1, 1, 0}, {0, 1000001, 1, 1, 0},
            {0, 0, 0, 1, 0}, {0, 0, 1025, 1, 0}, {0, 0, 1, 0, 0}, {0, 0, 1, 1025, 0},
            {0, 0, -5, -5, 0}, {0, 0, 129, 128, 0}, {0, 0, 1024, 17, 0}, {0, 0, 113, 145, 0}, {0, 0, 1024, 1024, 0},
            {0, 0, 1, 1, -1}, {0, 0, 1, 1, 21}, {0, 0, Integer.MAX_VALUE, Integer.MAX_VALUE, 0},
            {0, 0, 65536, 65536, 0}, {Integer.MIN_VALUE, 0, 1, 1, 0}, {0, 0, 1, 1, Integer.MAX_VALUE},
            {0, 0, Integer.MIN_VALUE, 1, 0}, {0, Integer.MAX_VALUE, 1, 1, 0},
        };
        for (int[] a : wrong) {
            expect.refusesArgument("begin(" + java.util.Arrays.toString(a) + ")",
                    () -> p.begin(a[0], a[1], a[2], a[3], a[4], false));
        }
        expect.equal("a refused begin changes no number", p.sum(), before);
        expect.equal("a refused begin changes no edge", p.edge(1, 0, 1), 2);
        expect.refusesState("a refused begin leaves it split", p::split);
        p.join(1);
        expect.equal("a refused begin leaves it of reals", p.at(3, 4), Math.round(p.real(3, 4)));
    }

    private static void beginTakesItsEdges() {
        PlaneSplitter p = new PlaneSplitter();
        int[][] right = {
            {0, 0, 1, 1, 0}, {1000000, 1000000, 1024, 16, 20}, {1000000, 0, 16, 1024, 20},
            {0, 0, 128, 128, 0}, {7, 9, 1, 1024, 3}, {0, 1000000, 1024, 1, 1},
        };
        for (int[] a : right) {
            for (boolean real : new boolean[] {false, true}) {
                String what = "begin(" + java.util.Arrays.toString(a) + ", " + real + ")";
                p.begin(a[0], a[1], a[2], a[3], a[4], real);
                int right1 = a[0] + a[2] - 1;
                int bottom = a[1] + a[3] - 1;
                p.set(right1, bottom, 5);
                expect.equal(what + ": last", p.at(right1, bottom), 5);
                expect.equal(what + ": sum", p.sum(), real ? 40 : 5);
                expect.refusesArgument(what + ": right of it", () -> p.at(right1 + 1, bottom));
                expect.refusesArgument(what + ": below it", () -> p.at(right1, bottom + 1));
                expect.refusesArgument(what + ": left of it", () -> p.at(a[0] - 1, a[1]));
                expect.refusesArgument(what + ": above it", () -> p.at(a[0], a[1] - 1));
                expect.equal(what + ": levels", p.edge(a[4], 0, 2) >= 0 ? 1 : 0, 1);
            }
        }
    }

    private static void beginForgets() {
        PlaneSplitter p = new PlaneSplitter();
        for (boolean real : new boolean[] {false, true}) {
            p.begin(1, 1, 30, 20, 2, real);
            p.fill(7, 11, 13);
            p.split();
            p.begin(4, 5, 10, 12, 0, real);
            expect.equal("begin: all 0", p.sum(), 0);
            p.fill(7, 11, 13);
            p.begin(4, 5, 40, 30, 0, real);
            expect.equal("begin: all 0 of more", p.sum(), 0);
            expect.equal("begin: whole", p.at(43, 34), 0);
        }
    }

    private static void setRefuses() {
        PlaneSplitter p = new PlaneSplitter();
        p.begin(3, 5, 4, 2, 1, false);
        p.set(3, 5, 8);
        int before = p.sum();
        int[][] wrong = {
            {2, 5, 0}, {7, 5, 0}, {3, 4, 0}, {3, 7, 0}, {0, 0, 0}, {-1, -1, 0},
            {Integer.MAX_VALUE, 5, 0}, {3, Integer.MIN_VALUE, 0},
            {3, 5, LARGEST + 1}, {3, 5, -LARGEST - 1}, {3, 5, Integer.MAX_VALUE}, {3, 5, Integer.MIN_VALUE},
        };
        for (int[] a : wrong) {
            expect.refusesArgument("set(" + java.util.Arrays.toString(a) + ")", () -> p.set(a[0], a[1], a[2]));
        }
        expect.equal("a refused set changes nothing", p.sum(), before);
        p.split();
        int split = p.sum();
        expect.refusesState("set of a split plane", () -> p.set(3, 5, 1));
        expect.refusesState("fill of a split plane", () -> p.fill(1, 2, 3));
        expect.equal("neither changes a number", p.sum(), split);
        expect.refusesArgument("the argument is looked at first", () -> p.set(2, 5, 1));
        expect.refusesArgument("the argument is looked at first", () -> p.set(3, 5, LARGEST + 1));
    }

    private static void setAndRead() {
        PlaneSplitter p = new PlaneSplitter();
        for (boolean real : new boolean[] {false, true}) {
            p.begin(3, 5, 4, 2, 1, real);
            for (int v : new int[] {LARGEST, -LARGEST, LARGEST - 1, 0, 1, -1, 65537}) {
                p.set(4, 6, v);
                expect.equal("set, at " + v, p.at(4, 6), v);
                expect.equalReal("set, real " + v, p.real(4, 6), v);
            }
            p.set(4, 6, 9);
            p.set(5, 5, -2);
            expect.equal("the others stay", p.at(3, 6), 0);
            expect.equal("the others stay", p.at(5, 6), 0);
            expect.equal("each has its own", p.at(5, 5), -2);
            expect.equal("each has its own", p.at(4, 6), 9);
        }
    }

    private static void fillNumbers() {
        PlaneSplitter p = new PlaneSplitter();
        for (boolean real : new boolean[] {false, true}) {
            p.begin(9, 100, 3, 4, 0, real);
            p.fill(100, 37, 5);
            expect.equal("fill: the first", p.at(9, 100), -32768);
            expect.equal("fill: to the right", p.at(11, 100), -32768 + 200);
            expect.equal("fill: below", p.at(9, 103), -32768 + 111);
            expect.equal("fill: both", p.at(11, 102), -32768 + 200 + 74 + 20);
            expect.equalReal("fill: as a float", p.real(11, 102), -32768 + 200 + 74 + 20);
            p.fill(0, 0, 0);
            expect.equal("fill: again", p.at(11, 102), -32768);
        }
    }

    private static void fillWraps() {
        PlaneSplitter p = new PlaneSplitter();
        p.begin(0, 0, 128, 128, 0, false);
        int[] sizes = {-1, 1, -70000, Integer.MAX_VALUE, Integer.MIN_VALUE, 123456789, -987654321};
        for (int a : sizes) {
            for (int c : sizes) {
                p.fill(a, 3, c);
                // Of wrapped and unwrapped sums the last 16 bits are the same.
                long v = (long) a * 127 + 3L * 126 + (long) c * 127 % 65536 * 126;
                expect.equal("fill(" + a + ", 3, " + c + ")", p.at(127, 126), Math.floorMod(v, 65536L) - 32768);
            }
        }
        p.fill(-1, 0, 0);
        expect.equal("mod of a negative number", p.at(1, 0), 32767);
        p.fill(32768, 0, 0);
        expect.equal("the middle", p.at(1, 5), 0);
    }

    private static void aRealIsReadAsAnInt() {
        PlaneSplitter p = new PlaneSplitter();
        p.begin(0, 0, 1, 1, 0, true);
        float[] values = {2.99f, -2.99f, 0.5f, -0.5f, 16777216f, -16777216f, 1e-30f};
        int[] due = {2, -2, 0, 0, 16777216, -16777216, 0};
        for (int i = 0; i < values.length; i++) {
            p.split();
            p.put(0, 0, 0, 0, values[i]);
            p.join(0);
            expect.equal("at of " + values[i], p.at(0, 0), due[i]);
            expect.equalReal("real of " + values[i], p.real(0, 0), values[i]);
        }
    }

    private static void anIntIsReadAsTheNextFloat() {
        PlaneSplitter p = new PlaneSplitter();
        p.begin(1, 1, 1, 1, 1, false);
        int[] values = {16777215, 16777213, -16777215};
        for (int v : values) {
            p.set(1, 1, v);
            p.split();
            expect.equal("four times " + v, p.band(1, 3, 0, 0), 4L * v);
            p.join(1);
        }
        p.begin(0, 0, 2, 1, 1, false);
        p.split();
        p.put(1, 0, 0, 0, 16777216f);
        p.put(1, 1, 0, 0, 3f);
        p.join(1);
        expect.equal("a large int", p.at(1, 0), 16777217);
        expect.equalReal("a large int, to the even float", p.real(1, 0), 16777216f);
        expect.equal("the other", p.at(0, 0), 16777214);
        p.split();
        p.put(1, 1, 0, 0, 5f);
        p.join(1);
        expect.equal("a larger int", p.at(1, 0), 16777218);
        p.split();
        p.put(1, 1, 0, 0, 6f);
        p.join(1);
        expect.equal("the largest int", p.at(1, 0), 16777219);
        expect.equalReal("the largest int, to the even float", p.real(1, 0), 16777220f);
    }

    private static void readingRefuses() {
        PlaneSplitter p = new PlaneSplitter();
        p.begin(3, 5, 4, 2, 1, true);
        int[][] wrong = {
            {2, 5}, {7, 5}, {3, 4}, {3, 7}, {-1, -1}, {0, 0},
            {Integer.MAX_VALUE, Integer.MAX_VALUE}, {Integer.MIN_VALUE, 5}, {3, Integer.MIN_VALUE},
        };
        for (int round = 0; round < 2; round++) {
            for (int[] a : wrong) {
                expect.refusesArgument("at(" + a[0] + ", " + a[1] + ")", () -> p.at(a[0], a[1]));
                expect.refusesArgument("real(" + a[0] + ", " + a[1] + ")", () -> p.real(a[0], a[1]));
            }
            if (round == 0) {
                p.split();
                expect.refusesState("at of a split plane", () -> p.at(3, 5));
                expect.refusesState("real of a split plane", () -> p.real(3, 5));
            }
        }
    }
}
