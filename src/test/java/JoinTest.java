import java.util.Arrays;

/** Promise 6: join. */
final class JoinTest {
    private static final int MIN = Integer.MIN_VALUE;
    private static final int MAX = Integer.MAX_VALUE;

    private static final Expect expect = new Expect();

    private static final int[][] SHAPES = {
        {0, 0, 8, 8, 3}, {1, 1, 8, 8, 3}, {3, 5, 7, 6, 2}, {5, 4, 1, 9, 4}, {4, 5, 9, 1, 4}, {5, 5, 1, 1, 20},
        {1000000, 999999, 33, 17, 20}, {0, 0, 128, 128, 7}, {7, 0, 1024, 16, 12}, {2, 3, 2, 2, 1}, {9, 9, 5, 5, 0},
    };

    public static void main(String[] args) {
        intsComeBackExactly();
        realsComeBackNearly();
        resolutionNought();
        aLowerResolutionIsThatOfTheBand();
        aResolutionWithoutPlaces();
        itIsWholeThen();
        levelsStay();
        rFromNoughtToItsLevels();
        ofAWholePlane();
        argumentsBeforeState();
        expect.end();
    }

    private static void intsComeBackExactly() {
        for (int[] s : SHAPES) {
            PlaneSplitter p = new PlaneSplitter();
            p.begin(s[0], s[1], s[2], s[3], s[4], false);
            p.fill(12345, 777, 4321);
            int whole = p.sum();
            int first = p.at(s[0], s[1]);
            int last = p.at(s[0] + s[2] - 1, s[1] + s[3] - 1);
            p.split();
            int split = p.sum();
            p.join(s[4]);
            String what = Arrays.toString(s);
            expect.equal(what + ": sum", p.sum(), whole);
            expect.equal(what + ": first", p.at(s[0], s[1]), first);
            expect.equal(what + ": last", p.at(s[0] + s[2] - 1, s[1] + s[3] - 1), last);
            p.split();
            expect.equal(what + ": split again", p.sum(), split);
        }
    }

    private static void realsComeBackNearly() {
        for (int[] s : SHAPES) {
            PlaneSplitter p = new PlaneSplitter();
            p.begin(s[0], s[1], s[2], s[3], s[4], true);
            p.fill(12345, 777, 4321);
            float first = p.real(s[0], s[1]);
            float last = p.real(s[0] + s[2] - 1, s[1] + s[3] - 1);
            p.split();
            p.join(s[4]);
            String what = Arrays.toString(s);
            expect.isTrue(what + ": first", Math.abs(p.real(s[0], s[1]) - first) < 1f);
            expect.isTrue(what + ": last", Math.abs(p.real(s[0] + s[2] - 1, s[1] + s[3] - 1) - last) < 1f);
        }
    }

    /** Resolution 0 is band 0 of the last level as it lies. */
    private static void resolutionNought() {
        for (State state : new State[] {State.SPLIT_INTS, State.SPLIT_REALS}) {
            PlaneSplitter p = state.make();
            p.put(2, 0, 1, 2, 1000.75f);
            p.put(2, 0, 2, 2, -77.5f);
            float[] due = {p.bandReal(2, 0, 1, 2), p.bandReal(2, 0, 2, 2)};
            p.join(0);
            expect.equalReal(state + ": its first number", p.real(1, 2), due[0]);
            expect.equalReal(state + ": its last number", p.real(2, 2), due[1]);
            for (int[] a : new int[][] {{0, 2}, {3, 2}, {1, 1}, {1, 3}, {3, 5}, {9, 10}}) {
                expect.refusesArgument("beside it at(" + a[0] + ", " + a[1] + ")", p, q -> q.at(a[0], a[1]));
            }
        }
        PlaneSplitter q = State.SPLIT_WITHOUT_LEVELS.make();
        float due = q.bandReal(0, 0, 7, 8);
        q.join(0);
        expect.equalReal("without levels it is the plane", q.real(7, 8), due);
    }

    /** Joined to r, a plane is band 0 of a plane split in as many levels as are not undone. */
    private static void aLowerResolutionIsThatOfTheBand() {
        for (int[] s : SHAPES) {
            for (int r = 0; r <= s[4]; r++) {
                PlaneSplitter p = new PlaneSplitter();
                p.begin(s[0], s[1], s[2], s[3], s[4], false);
                p.fill(12345, 777, 4321);
                p.split();
                p.join(r);
                int level = s[4] - r;
                PlaneSplitter q = new PlaneSplitter();
                q.begin(s[0], s[1], s[2], s[3], level, false);
                q.fill(12345, 777, 4321);
                q.split();
                compareWithBand(p, q, level);
            }
        }
    }

    private static void compareWithBand(PlaneSplitter p, PlaneSplitter q, int level) {
        int left = q.edge(level, 0, 0);
        int top = q.edge(level, 0, 1);
        int right = left + q.edge(level, 0, 2);
        int bottom = top + q.edge(level, 0, 3);
        // A plane has 512 calls, so of a large one every n-th number is asked for.
        int step = 1 + (right - left) * (bottom - top) / 400;
        for (int k = 0; k < (right - left) * (bottom - top); k += step) {
            int x = left + k % (right - left);
            int y = top + k / (right - left);
            expect.equal("resolution at " + x + ", " + y, p.at(x, y), q.band(level, 0, x, y));
        }
        for (int[] a : new int[][] {{left - 1, top}, {right, top}, {left, top - 1}, {left, bottom}}) {
            expect.refusesArgument("beside the resolution", p, joined -> joined.at(a[0], a[1]));
        }
    }

    private static void aResolutionWithoutPlaces() {
        int[][] shapes = {
            // Left, top, wide, high, levels; then r, and LEFT, TOP, WIDE, HIGH of level 1's band 3.
            {5, 4, 1, 3, 1, 0, 1, 1, 0, 1}, {4, 5, 3, 1, 1, 0, 1, 1, 1, 0}, {5, 5, 1, 1, 1, 0, 1, 1, 0, 0},
            {5, 4, 1, 3, 2, 1, 1, 1, 0, 1}, {6, 6, 1, 1, 2, 0, 1, 1, 0, 0},
        };
        for (int[] s : shapes) {
            for (boolean real : new boolean[] {false, true}) {
                PlaneSplitter p = new PlaneSplitter();
                p.begin(s[0], s[1], s[2], s[3], s[4], real);
                p.fill(1, 2, 3);
                p.split();
                p.join(s[5]);
                String what = Arrays.toString(s);
                for (int w = 0; w < 4; w++) {
                    expect.equal(what + ": edge " + w, p.edge(1, 3, w), s[6 + w]);
                }
                expect.equal(what + ": sum", p.sum(), 0);
                p.split();
                expect.equal(what + ": split, sum", p.sum(), 0);
                p.join(s[4]);
                expect.equal(what + ": joined again, sum", p.sum(), 0);
            }
        }
    }

    private static void itIsWholeThen() {
        for (State state : new State[] {State.SPLIT_INTS, State.SPLIT_REALS, State.SPLIT_WITHOUT_PLACES}) {
            for (int r = 0; r <= 2; r++) {
                PlaneSplitter p = state.make();
                p.join(r);
                expect.refusesState("joined twice in " + state, p, q -> q.join(0));
                p.fill(1, 2, 3);
            }
        }
    }

    private static void levelsStay() {
        PlaneSplitter p = new PlaneSplitter();
        p.begin(0, 0, 16, 16, 3, false);
        p.fill(5, 6, 7);
        p.split();
        p.join(1);
        expect.equal("levels stay: WIDE", p.edge(1, 1, 2), 2);
        expect.equal("levels stay: the last", p.edge(3, 0, 2), 1);
        p.split();
        p.join(3);
        expect.equal("levels stay: joined in all", p.edge(1, 1, 2), 2);
        p.split();
        p.join(0);
        expect.equal("levels stay: at last", p.edge(3, 1, 2), 0);
        p.split();
        p.join(0);
        expect.equal("one place is left", p.at(0, 0), p.sum());
        for (int k = 0; k < 5; k++) {
            p.split();
            p.join(0);
        }
        expect.equal("and it stays", p.at(0, 0), p.sum());
        expect.refusesArgument("level 3 and no more", State.JOINED_TO_LESS, q -> q.edge(3, 1, 0));
        expect.allows("level 2", State.JOINED_TO_LESS, q -> q.edge(2, 1, 0));
    }

    private static void rFromNoughtToItsLevels() {
        int[][] levelsAndWrong = {{0, 1}, {1, 2}, {2, 3}, {19, 20}, {20, 21}};
        for (int[] a : levelsAndWrong) {
            for (int r : new int[] {0, a[0]}) {
                PlaneSplitter p = new PlaneSplitter();
                p.begin(0, 0, 3, 3, a[0], false);
                p.set(0, 0, 5);
                p.split();
                p.join(r);
                expect.equal("join(" + r + ") of " + a[0] + " levels: wide", wide(p), r == a[0] ? 3 : a[0] == 1 ? 2 : 1);
            }
            for (int r : new int[] {-1, a[1]}) {
                PlaneSplitter p = new PlaneSplitter();
                p.begin(0, 0, 3, 3, a[0], false);
                p.split();
                expect.refusesArgument("join(" + r + ") of " + a[0] + " levels", p, q -> q.join(r));
            }
        }
        for (State state : State.values()) {
            if (state.name().contains("SPLIT")) {
                int wrong = state == State.SPLIT_WITHOUT_LEVELS ? 1 : 3;
                for (int r : new int[] {-1, -2, MIN, wrong, wrong + 1, 20, 21, MAX}) {
                    expect.refusesArgument("join(" + r + ")", state, p -> p.join(r));
                }
                for (int r = 0; r < wrong; r++) {
                    int allowed = r;
                    expect.allows("join(" + r + ")", state, p -> p.join(allowed));
                }
            }
        }
    }

    private static int wide(PlaneSplitter p) {
        int wide = 0;
        try {
            while (wide < 1024) {
                p.at(wide, 0);
                wide++;
            }
        } catch (IllegalArgumentException e) {
            return wide;
        }
        return wide;
    }

    private static void ofAWholePlane() {
        for (State state : State.values()) {
            if (!state.name().contains("SPLIT")) {
                expect.refusesState("join(0)", state, p -> p.join(0));
                if (state != State.NEW && state != State.WHOLE_WITHOUT_LEVELS) {
                    expect.refusesState("join(2)", state, p -> p.join(2));
                }
            }
        }
    }

    /** The document does not say which comes first; this is the order in which it tells them. */
    private static void argumentsBeforeState() {
        expect.refusesArgument("join(3)", State.WHOLE_INTS, p -> p.join(3));
        expect.refusesArgument("join(-1)", State.WHOLE_REALS, p -> p.join(-1));
    }
}
