/** Promises 5, 9, 10 and 11: splitting, and what the bands are. */
final class SplitTest {
    private static final Expect expect = new Expect();

    public static void main(String[] args) {
        lineOfIntsFromAnEvenPlace();
        lineOfIntsFromAnOddPlace();
        lineOfTwoInts();
        lineOfOneInt();
        lineOfReals();
        columnsComeBeforeRows();
        levelsGoOnWithBandZero();
        splitWithoutLevels();
        splitWithoutPlaces();
        splitTwice();
        edgesOfBands();
        edgesWithManyLevels();
        edgeRefuses();
        bandRefuses();
        bandOfReals();
        expect.end();
    }

    private static PlaneSplitter row(int left, boolean real, int levels, int... numbers) {
        PlaneSplitter p = new PlaneSplitter();
        p.begin(left, 0, numbers.length, 1, levels, real);
        for (int i = 0; i < numbers.length; i++) {
            p.set(left + i, 0, numbers[i]);
        }
        return p;
    }

    private static void bandsAre(String what, PlaneSplitter p, int band, int left, int... numbers) {
        expect.equal(what + ": LEFT of band " + band, p.edge(1, band, 0), left);
        expect.equal(what + ": WIDE of band " + band, p.edge(1, band, 2), numbers.length);
        for (int i = 0; i < numbers.length; i++) {
            expect.equal(what + ": band " + band + " at " + (left + i), p.band(1, band, left + i, 0), numbers[i]);
        }
    }

    private static void lineOfIntsFromAnEvenPlace() {
        PlaneSplitter p = row(0, false, 1, 1, 5, 2, 9);
        p.split();
        bandsAre("even", p, 0, 0, 3, 5);
        bandsAre("even", p, 1, 0, 4, 7);
        PlaneSplitter q = row(6, false, 1, 1, 5, 2, 9, -4);
        q.split();
        bandsAre("even, five", q, 0, 3, 3, 6, 1);
        bandsAre("even, five", q, 1, 3, 4, 10);
    }

    private static void lineOfIntsFromAnOddPlace() {
        PlaneSplitter p = row(1, false, 1, 1, 5, 2, 9);
        p.split();
        bandsAre("odd", p, 0, 1, 3, 7);
        bandsAre("odd", p, 1, 0, -4, -5);
    }

    private static void lineOfTwoInts() {
        PlaneSplitter p = row(2, false, 1, 10, 3);
        p.split();
        bandsAre("two from 2", p, 0, 1, 7);
        bandsAre("two from 2", p, 1, 1, -7);
        PlaneSplitter q = row(3, false, 1, 10, 3);
        q.split();
        bandsAre("two from 3", q, 0, 2, 7);
        bandsAre("two from 3", q, 1, 1, 7);
    }

    private static void lineOfOneInt() {
        PlaneSplitter p = row(4, false, 1, -7);
        p.split();
        bandsAre("one at 4", p, 0, 2, -7);
        bandsAre("one at 4", p, 1, 2);
        PlaneSplitter q = row(5, false, 1, -7);
        q.split();
        bandsAre("one at 5", q, 0, 3);
        bandsAre("one at 5", q, 1, 2, -14);
        PlaneSplitter r = new PlaneSplitter();
        r.begin(5, 3, 1, 1, 1, true);
        r.set(5, 3, -7);
        r.split();
        expect.equalReal("one real at 5, 3", r.bandReal(1, 3, 2, 1), -28.0f);
    }

    private static void lineOfReals() {
        PlaneSplitter p = row(0, true, 1, 10, 3);
        p.split();
        float odd = 3f + -1.586134342059924f * (10f + 10f);
        float even = 10f + -0.052980118572961f * (odd + odd);
        odd = odd + 0.882911075530934f * (even + even);
        even = even + 0.443506852043971f * (odd + odd);
        odd = odd * 1.230174104914001f;
        even = even * 0.8128930661159609f;
        expect.equalReal("two reals: low", p.bandReal(1, 0, 0, 0), even);
        expect.equalReal("two reals: high", p.bandReal(1, 1, 0, 0), odd);
        PlaneSplitter q = row(7, true, 1, 5, 5, 5, 5, 5, 5);
        q.split();
        for (int k = 0; k < 3; k++) {
            expect.isTrue("of equal reals the low ones stay", near(q.bandReal(1, 0, 4 + k, 0), 5f));
            expect.isTrue("of equal reals the high ones are 0", near(q.bandReal(1, 1, 3 + k, 0), 0f));
        }
    }

    private static boolean near(float a, float b) {
        return Math.abs(a - b) < 0.0001f;
    }

    private static void columnsComeBeforeRows() {
        PlaneSplitter p = new PlaneSplitter();
        p.begin(0, 0, 2, 2, 1, false);
        p.set(1, 1, 1);
        p.set(0, 1, 2);
        p.split();
        // Columns: (0, 2) to (1, 2) and (0, 1) to (1, 1); then rows: (1, 1), (2, 1).
        expect.equal("low in both", p.band(1, 0, 0, 0), 1);
        expect.equal("high across", p.band(1, 1, 0, 0), 0);
        expect.equal("high down", p.band(1, 2, 0, 0), 2);
        expect.equal("high in both", p.band(1, 3, 0, 0), -1);
        p.begin(0, 0, 2, 2, 1, false);
        p.set(0, 1, 1);
        p.set(1, 1, 3);
        p.split();
        // Columns: (0, 1) to (1, 1), (0, 3) to (2, 3); then rows: (1, 2) to (2, 1), (1, 3) to (2, 2).
        // With the rows first, band 0 would be 1.
        expect.equal("low in both", p.band(1, 0, 0, 0), 2);
        expect.equal("high across", p.band(1, 1, 0, 0), 1);
        expect.equal("high down", p.band(1, 2, 0, 0), 2);
        expect.equal("high in both", p.band(1, 3, 0, 0), 2);
    }

    private static void levelsGoOnWithBandZero() {
        PlaneSplitter p = row(0, false, 2, 1, 5, 2, 9);
        p.split();
        expect.equal("level 1 high", p.band(1, 1, 0, 0), 4);
        expect.equal("level 1 high", p.band(1, 1, 1, 0), 7);
        expect.equal("level 2 high", p.band(2, 1, 0, 0), 2);
        expect.equal("level 2 low", p.band(2, 0, 0, 0), 4);
        expect.refusesArgument("level 1 has no band 0 then", () -> p.band(1, 0, 0, 0));
    }

    private static void splitWithoutLevels() {
        for (boolean real : new boolean[] {false, true}) {
            PlaneSplitter p = new PlaneSplitter();
            p.begin(5, 7, 3, 3, 0, real);
            p.fill(3, 4, 5);
            int sum = p.sum();
            int number = p.at(7, 9);
            p.split();
            expect.equal("no levels: sum", p.sum(), sum);
            expect.equal("no levels: band 0 of level 0", p.band(0, 0, 7, 9), number);
            expect.refusesState("no levels: split", () -> p.at(7, 9));
            expect.refusesArgument("no levels: no resolution 1", () -> p.join(1));
            p.join(0);
            expect.equal("no levels: joined", p.at(7, 9), number);
        }
    }

    private static void splitWithoutPlaces() {
        PlaneSplitter p = new PlaneSplitter();
        p.begin(5, 0, 1, 8, 1, true);
        p.fill(1, 2, 3);
        p.split();
        p.join(0);
        expect.equal("no places: WIDE", p.edge(1, 0, 2) + p.edge(1, 1, 2), 0);
        expect.equal("no places: HIGH", p.edge(1, 0, 3) + p.edge(1, 2, 3), 4);
        expect.equal("no places: sum", p.sum(), 0);
        p.fill(1, 2, 3);
        p.split();
        expect.equal("no places: sum of the split plane", p.sum(), 0);
        expect.refusesState("no places: it is split", p::split);
        expect.refusesArgument("no places: no number", () -> p.band(1, 0, 2, 0));
        p.join(1);
        expect.refusesArgument("no places: no number", () -> p.at(3, 0));
    }

    private static void splitTwice() {
        PlaneSplitter p = row(1, false, 1, 1, 5, 2, 9);
        p.split();
        int sum = p.sum();
        expect.refusesState("split again", p::split);
        expect.equal("split again changes nothing", p.sum(), sum);
        p.join(1);
        p.split();
        expect.equal("the same bands once more", p.sum(), sum);
    }

    private static void edgesAre(PlaneSplitter p, int level, int band, int... due) {
        for (int w = 0; w < 4; w++) {
            expect.equal("edge(" + level + ", " + band + ", " + w + ")", p.edge(level, band, w), due[w]);
        }
    }

    private static void edgesOfBands() {
        PlaneSplitter p = new PlaneSplitter();
        p.begin(3, 5, 7, 6, 2, false);
        for (int round = 0; round < 2; round++) {
            edgesAre(p, 1, 1, 1, 3, 4, 3);
            edgesAre(p, 1, 2, 2, 2, 3, 3);
            edgesAre(p, 1, 3, 1, 2, 4, 3);
            edgesAre(p, 2, 0, 1, 2, 2, 1);
            edgesAre(p, 2, 1, 1, 2, 1, 1);
            edgesAre(p, 2, 2, 1, 1, 2, 2);
            edgesAre(p, 2, 3, 1, 1, 1, 2);
            if (round == 0) {
                p.split();
            }
        }
        p.join(1);
        edgesAre(p, 2, 0, 1, 1, 1, 1);
        edgesAre(p, 1, 3, 1, 1, 1, 2);
    }

    private static void edgesWithManyLevels() {
        PlaneSplitter p = new PlaneSplitter();
        p.begin(1000000, 0, 1024, 16, 20, true);
        edgesAre(p, 20, 0, 1, 0, 0, 1);
        edgesAre(p, 20, 1, 1, 0, 0, 1);
        edgesAre(p, 10, 1, 977, 0, 1, 1);
        edgesAre(p, 1, 3, 500000, 0, 512, 8);
        p.begin(1048576 - 1024 * 512, 0, 1, 1, 20, false);
        edgesAre(p, 20, 0, 1, 0, 0, 1);
        edgesAre(p, 20, 1, 0, 0, 1, 1);
    }

    private static void edgeRefuses() {
        PlaneSplitter p = new PlaneSplitter();
        p.begin(3, 5, 7, 6, 2, false);
        int[][] wrong = {
            {0, 0, 0}, {1, 0, 0}, {3, 0, 0}, {0, 1, 0}, {3, 1, 0}, {1, 4, 0}, {1, -1, 0}, {2, 4, 0}, {-1, 0, 0},
            {-1, 1, 0}, {2, 0, -1}, {2, 0, 4}, {1, 1, 4}, {1, 1, Integer.MIN_VALUE}, {Integer.MAX_VALUE, 1, 0},
            {Integer.MIN_VALUE, 3, 0}, {1, Integer.MAX_VALUE, 0}, {1, Integer.MIN_VALUE, 0}, {32, 1, 0}, {33, 1, 0},
        };
        for (int round = 0; round < 2; round++) {
            for (int[] a : wrong) {
                expect.refusesArgument("edge(" + a[0] + ", " + a[1] + ", " + a[2] + ")",
                        () -> p.edge(a[0], a[1], a[2]));
            }
            if (round == 0) {
                p.split();
            }
        }
        p.begin(0, 0, 4, 4, 0, false);
        expect.refusesArgument("no levels: no band 1", () -> p.edge(0, 1, 0));
        edgesAre(p, 0, 0, 0, 0, 4, 4);
    }

    private static void bandRefuses() {
        PlaneSplitter p = new PlaneSplitter();
        p.begin(3, 5, 7, 6, 2, true);
        int[][] wrong = {
            {1, 0, 2, 3}, {0, 0, 3, 5}, {3, 1, 0, 0}, {1, 4, 1, 3}, {1, -1, 1, 3}, {2, -1, 1, 2}, {0, 1, 1, 3},
            {1, 1, 0, 3}, {1, 1, 5, 3}, {1, 1, 1, 2}, {1, 1, 1, 6}, {2, 0, 0, 2}, {2, 0, 3, 2}, {2, 0, 1, 1},
            {2, 0, 1, 3}, {1, 3, -1, 2}, {1, 3, Integer.MAX_VALUE, 2}, {1, 3, 1, Integer.MIN_VALUE},
            {Integer.MAX_VALUE, 1, 1, 3}, {Integer.MIN_VALUE, 1, 1, 3}, {33, 1, 1, 3}, {1, Integer.MAX_VALUE, 1, 3},
        };
        for (int round = 0; round < 2; round++) {
            for (int[] a : wrong) {
                String what = a[0] + ", " + a[1] + ", " + a[2] + ", " + a[3];
                expect.refusesArgument("band(" + what, () -> p.band(a[0], a[1], a[2], a[3]));
                expect.refusesArgument("bandReal(" + what, () -> p.bandReal(a[0], a[1], a[2], a[3]));
            }
            if (round == 0) {
                expect.refusesState("band of a whole plane", () -> p.band(1, 1, 1, 3));
                expect.refusesState("bandReal of a whole plane", () -> p.bandReal(1, 1, 1, 3));
                p.split();
            }
        }
        expect.equal("the first place", p.band(1, 1, 1, 3), 0);
        expect.equal("the last place", p.band(1, 1, 4, 5), 0);
    }

    private static void bandOfReals() {
        PlaneSplitter p = row(0, true, 1, 8, 3, 8, 3);
        p.split();
        p.put(1, 1, 1, 0, -2.75f);
        expect.equal("without its fraction", p.band(1, 1, 1, 0), -2);
        expect.equalReal("with its fraction", p.bandReal(1, 1, 1, 0), -2.75f);
        PlaneSplitter q = new PlaneSplitter();
        q.begin(1, 1, 1, 1, 1, false);
        q.set(1, 1, -16777215);
        q.split();
        expect.equal("an int of a band", q.band(1, 3, 0, 0), -67108860);
        expect.equalReal("the same as a float", q.bandReal(1, 3, 0, 0), -67108860f);
    }
}
