/** Terms: the bands of a level, one level behind the other, and resolutions. */
final class LevelTest {
    private static final Expect expect = new Expect();

    public static void main(String[] args) {
        whichBandIsWhich();
        columnsAreSplitFirst();
        rowsAreJoinedFirst();
        levelsGoOnWithBandNought();
        bandNoughtIsThereOfTheLastLevelAlone();
        theLastLevelIsUndoneFirst();
        aBandMayBeEmptyAcrossOrDown();
        expect.end();
    }

    /** Of what is the same in each column only low ones across are left; so with rows. */
    private static void whichBandIsWhich() {
        PlaneSplitter p = new PlaneSplitter();
        p.begin(0, 0, 4, 4, 1, false);
        for (int y = 0; y < 4; y++) {
            p.set(1, y, 8);
            p.set(3, y, 8);
        }
        p.split();
        expect.equal("high across", p.band(1, 1, 0, 0), 8);
        expect.equal("not high down", p.band(1, 2, 0, 0), 0);
        expect.equal("not high in both", p.band(1, 3, 0, 0), 0);
        PlaneSplitter q = new PlaneSplitter();
        q.begin(0, 0, 4, 4, 1, false);
        for (int x = 0; x < 4; x++) {
            q.set(x, 1, 8);
            q.set(x, 3, 8);
        }
        q.split();
        expect.equal("not high across", q.band(1, 1, 0, 0), 0);
        expect.equal("high down", q.band(1, 2, 0, 0), 8);
        expect.equal("not high in both", q.band(1, 3, 0, 0), 0);
        PlaneSplitter r = new PlaneSplitter();
        r.begin(0, 0, 4, 4, 1, false);
        r.set(3, 3, 8);
        r.split();
        expect.equal("high in both", r.band(1, 3, 1, 1), 8);
        expect.equal("high in both, elsewhere", r.band(1, 3, 0, 0), 0);
    }

    private static void columnsAreSplitFirst() {
        PlaneSplitter p = new PlaneSplitter();
        p.begin(0, 0, 2, 2, 1, false);
        p.set(0, 1, 1);
        p.set(1, 1, 3);
        p.split();
        // Columns: (0, 1) to (1, 1), (0, 3) to (2, 3); then rows: (1, 2) to (2, 1), (1, 3) to (2, 2).
        // With the rows first, band 0 would be 1.
        expect.equal("low in both", p.band(1, 0, 0, 0), 2);
        expect.equal("high across", p.band(1, 1, 0, 0), 1);
        expect.equal("high down", p.band(1, 2, 0, 0), 2);
        expect.equal("high in both", p.band(1, 3, 0, 0), 2);
    }

    private static void rowsAreJoinedFirst() {
        PlaneSplitter p = new PlaneSplitter();
        p.begin(0, 0, 2, 2, 1, false);
        p.split();
        p.put(1, 3, 0, 0, 1f);
        p.join(1);
        // Rows: (0, 0) stays, (0, 1) to (-1, 0); then columns: (0, -1) stays, (0, 0) too.
        // With the columns first, the -1 would be at 1, 0.
        expect.equal("joined at 0, 0", p.at(0, 0), 0);
        expect.equal("joined at 1, 0", p.at(1, 0), 0);
        expect.equal("joined at 0, 1", p.at(0, 1), -1);
        expect.equal("joined at 1, 1", p.at(1, 1), 0);
    }

    private static void levelsGoOnWithBandNought() {
        PlaneSplitter p = new PlaneSplitter();
        p.begin(0, 0, 4, 1, 2, false);
        int[] numbers = {1, 5, 2, 9};
        for (int i = 0; i < 4; i++) {
            p.set(i, 0, numbers[i]);
        }
        p.split();
        // Level 1: low 3, 5 and high 4, 7; level 2 of 3, 5: high 2, low 3 and a quarter of 6.
        expect.equal("level 1 high", p.band(1, 1, 0, 0), 4);
        expect.equal("level 1 high", p.band(1, 1, 1, 0), 7);
        expect.equal("level 2 high", p.band(2, 1, 0, 0), 2);
        expect.equal("level 2 low", p.band(2, 0, 0, 0), 4);
    }

    private static void bandNoughtIsThereOfTheLastLevelAlone() {
        PlaneSplitter p = new PlaneSplitter();
        p.begin(0, 0, 16, 16, 3, false);
        p.split();
        for (int level : new int[] {0, 1, 2, 4}) {
            expect.refusesArgument("band 0 of level " + level, p, q -> q.band(level, 0, 0, 0));
            expect.refusesArgument("bandReal 0 of level " + level, p, q -> q.bandReal(level, 0, 0, 0));
            expect.refusesArgument("put into band 0 of level " + level, p, q -> q.put(level, 0, 0, 0, 1f));
            expect.refusesArgument("edge of band 0 of level " + level, p, q -> q.edge(level, 0, 0));
        }
        expect.equal("band 0 of level 3", p.band(3, 0, 1, 1), 0);
        expect.refusesArgument("band 0 of level 3 is two wide", p, q -> q.band(3, 0, 2, 1));
    }

    /** At resolution 1 of 2 levels the numbers of level 1 have no part. */
    private static void theLastLevelIsUndoneFirst() {
        for (boolean real : new boolean[] {false, true}) {
            float[] due = new float[2];
            for (int round = 0; round < 2; round++) {
                PlaneSplitter p = new PlaneSplitter();
                p.begin(0, 0, 8, 8, 2, real);
                p.fill(100, 200, 300);
                p.split();
                p.put(1, 1, 2, 2, round * 5000f);
                p.put(1, 2, 2, 2, round * 5000f);
                p.put(1, 3, 2, 2, round * 5000f);
                p.join(1);
                due[round] = p.real(2, 2);
                expect.refusesArgument("four places across", p, q -> q.at(4, 0));
                expect.equal("the sides", p.edge(1, 3, 2), 2);
            }
            expect.equalReal("without level 1", due[1], due[0]);
        }
        PlaneSplitter q = new PlaneSplitter();
        q.begin(0, 0, 4, 1, 2, false);
        q.split();
        q.put(2, 0, 0, 0, 4f);
        q.put(2, 1, 0, 0, 2f);
        q.put(1, 1, 0, 0, 99f);
        q.join(1);
        expect.equal("resolution 1, even", q.at(0, 0), 3);
        expect.equal("resolution 1, odd", q.at(1, 0), 5);
        PlaneSplitter r = new PlaneSplitter();
        r.begin(0, 0, 4, 1, 2, false);
        r.split();
        r.put(2, 0, 0, 0, 4f);
        r.put(2, 1, 0, 0, 2f);
        r.put(1, 1, 0, 0, 4f);
        r.put(1, 1, 1, 0, 7f);
        r.join(2);
        // First 4, 2 to 3, 5; with them 3, 4, 5, 7 to what comes.
        int[] numbers = {1, 5, 2, 9};
        for (int i = 0; i < 4; i++) {
            expect.equal("resolution 2 at " + i, r.at(i, 0), numbers[i]);
        }
    }

    private static void aBandMayBeEmptyAcrossOrDown() {
        // Left, top, wide, high; then which of the bands 0 to 3 of level 1 have numbers.
        int[][] shapes = {
            {4, 4, 1, 1, 1, 0, 0, 0}, {5, 4, 1, 1, 0, 1, 0, 0}, {4, 5, 1, 1, 0, 0, 1, 0}, {5, 5, 1, 1, 0, 0, 0, 1},
            {4, 4, 1, 2, 1, 0, 1, 0}, {5, 4, 1, 2, 0, 1, 0, 1}, {4, 4, 2, 1, 1, 1, 0, 0}, {4, 5, 2, 1, 0, 0, 1, 1},
            {4, 4, 2, 2, 1, 1, 1, 1}, {5, 5, 2, 2, 1, 1, 1, 1},
        };
        for (int[] s : shapes) {
            for (boolean real : new boolean[] {false, true}) {
                PlaneSplitter p = new PlaneSplitter();
                p.begin(s[0], s[1], s[2], s[3], 1, real);
                p.split();
                for (int band = 0; band < 4; band++) {
                    int many = p.edge(1, band, 2) * p.edge(1, band, 3);
                    expect.equal("numbers of band " + band, many, s[4 + band]);
                }
            }
        }
    }
}
