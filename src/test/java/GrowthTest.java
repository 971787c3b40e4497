import java.util.Set;
import java.util.TreeSet;

/**
 * Terms: ints wrap round. Promises 10 and 13: of reals, ints as Java casts. No set and no put
 * reaches so far, but numbers grow while some are set and put anew between a split and a join.
 * The grids below were searched for with this in mind: + stands for 16,777,216 and - for
 * -16,777,216 at a place of the plane, . for a number that stays. The first grid is set, the plane
 * is split, the second grid is put where those places went, the plane is joined, and so on.
 */
final class GrowthTest {
    private static final int LARGEST = 16777216;

    /** The most calls that an object is used for. */
    private static final int MOST_CALLS = 512;

    /** Even at all levels, until the one number of the last level's band 0 is at 1, 1. */
    private static final int FIRST = 8;
    private static final int SIDE = 8;
    private static final int LEVELS = 3;

    private static final String[][] INTS = {
        {"++------", "+++-----", "-+++--++", "--++++--", "---+++--", "---+++-+", "--+---+-", "--+--+-+"},
        {"+---+-.-", "+++.-+-+", "--.-----", "-.-+---+", "+---.-+-", "++---.-.", "----+-.-", "---+-.-."},
        {".++---.-", "....----", "++----.-", "-.-..+--", "---...--", "---+..--", ".-+---.-", "+.---.-."},
        {"+.-.+.-.", "---+--..", "--.-.--.", ".+---++.", "+-.-.-+-", "---+-...", "-.--+...", "-+....+."},
        {"...---..", ".++--...", ".+----+.", "---+..--", "---...--", "-.-...--", "..+---.-", "-..--.-."},
        {"+.-.+.-.", "---+--..", "--.-.--.", ".+---.--", "+-.-.-+-", ".--+-...", "-.--+...", "...-..+."},
        {"...+--..", ".++--...", ".+----+.", "+--+..-.", "---...--", "-.-..---", "+.+---.-", "....-.-."},
        {"+...+...", "........", "......-.", "........", "+.....+.", "...+-..-", "..--+..+", "...-..+."},
        {"........", "........", "........", "........", "........", "........", ".....-.-", "....-.-."},
    };

    /**
     * What follows on the ints, when the first sums have wrapped round: a sign, and how far right and
     * down of the first place; at each / the plane is joined or split.
     */
    private static final String INTS_THEN = "+57/+45-56-24+57/+05/-75-35/+44+44+57/-47/-42+12+77/+30+64//+77/"
            + "-26-71-26/+50-63+10+45/-64/+26+37//+65/+66-21/+16+21-66/+45+44/+44/-24/+04+43+10+54/";

    private static final String[][] REALS = {
        {"+++-----", "+++-----", "+++-----", "---+++--", "---+++--", "---++++-", "-----++-", "-------+"},
        {"+--.++--", "---++---", "--+-----", ".+-----+", "++--.-+-", "+----+-+", "--+++-.+", "---+-++."},
        {"...---+-", ".++----.", ".+------", "---+.+--", "---...--", "---.....", "+-----.-", "-.-----."},
        {"+--.++-.", "---++-+-", "--+-.+--", ".+---.++", "++.-.-+-", "+-+--+-.", "-+-++..+", ".--+-.+."},
        {"...---++", ".++----.", ".+----..", "---+..--", "---...--", "---..---", "+-.---.-", "+..----."},
        {"+--.++--", "-.-++-+-", "--+-.+-.", ".+---..+", "++.-.-+-", "+-+--+..", "-+-.+..+", "--.+-.+."},
        {"...---++", ".++----.", ".+----..", "---+..--", "---...--", "---..---", "+-.---.-", "+..----."},
        {"+--.+--+", "-.-++++-", "--+-.--+", ".+---..+", "++.-.-+-", "-+-.-+..", "-+-.+..+", "+-++-.+."},
        {"...--.++", ".++-----", ".+---...", "---+..--", "---...--", ".-...---", "+-.---.-", "+-.----."},
        {"+.+.+.-.", ".....-+-", "+.++.+-+", "..++-..+", "+..-.++-", ".-+.+..-", "-+-.+..+", ".-++--+."},
        {"........", "........", "........", "........", ".....--.", "....-...", "....-..-", "......-."},
    };

    private static final Expect expect = new Expect();

    private final PlaneSplitter plane = new PlaneSplitter();
    private final NaivePlane naive = new NaivePlane();
    private final int sign;
    private int calls = 0;
    private boolean isSplit = false;

    private GrowthTest(boolean real, int sign) {
        this.sign = sign;
        plane.begin(FIRST, FIRST, SIDE, SIDE, LEVELS, real);
        naive.begin(FIRST, FIRST, SIDE, SIDE, LEVELS, real);
        calls++;
    }

    public static void main(String[] args) {
        Set<String> wrapped = new TreeSet<>();
        wrapped.addAll(intsWrap(1));
        wrapped.addAll(intsWrap(-1));
        String[] all = {
            "a + b", "a + b + 2", "a number less the half", "a number and the quarter", "a number less the quarter",
            "a number and the half", "twice a number",
        };
        for (String what : all) {
            expect.isTrue("some run makes this wrap round: " + what, wrapped.contains(what));
        }
        realsBeyondAllInts(1);
        realsBeyondAllInts(-1);
        expect.end();
    }

    private void grow(String[][] grids) {
        for (int k = 0; k < grids.length; k++) {
            if (k > 0) {
                turn(LEVELS);
            }
            for (int y = 0; y < SIDE; y++) {
                for (int x = 0; x < SIDE; x++) {
                    change(FIRST + x, FIRST + y, grids[k][y].charAt(x));
                }
            }
        }
    }

    private void change(int x, int y, char what) {
        if (what == '.') {
            return;
        }
        int v = (what == '+' ? LARGEST : -LARGEST) * sign;
        calls++;
        if (!isSplit) {
            plane.set(x, y, v);
            naive.set(x, y, v);
            return;
        }
        int level = Math.min(LEVELS, 1 + Math.min(Integer.numberOfTrailingZeros(x), Integer.numberOfTrailingZeros(y)));
        int band = (x >> (level - 1) & 1) + 2 * (y >> (level - 1) & 1);
        plane.put(level, band, x >> level, y >> level, v);
        naive.put(level, band, x >> level, y >> level, v);
    }

    private void turn(int r) {
        calls++;
        if (isSplit) {
            plane.join(r);
            naive.join(r);
        } else {
            plane.split();
            naive.split();
        }
        isSplit = !isSplit;
    }

    private void compare(String what) {
        calls++;
        expect.equal(what + ": sum", plane.sum(), naive.sum());
    }

    private static Set<String> intsWrap(int sign) {
        GrowthTest run = new GrowthTest(false, sign);
        run.grow(INTS);
        run.compare("grown");
        expect.isTrue("nothing has wrapped round yet", run.naive.wrapped.isEmpty());
        run.turn(LEVELS);
        run.compare("split");
        expect.isTrue("something has wrapped round", !run.naive.wrapped.isEmpty());
        run.goOn(INTS_THEN);
        for (int r : new int[] {3, 2, 1, 0}) {
            run.turn(r);
            run.compare("joined to " + r);
            run.turn(r);
            run.compare("split again");
        }
        expect.isTrue("within the calls of an object", run.calls <= MOST_CALLS);
        return run.naive.wrapped;
    }

    private void goOn(String what) {
        for (int i = 0; i < what.length(); i++) {
            if (what.charAt(i) == '/') {
                turn(LEVELS);
                compare("turned");
            } else {
                change(FIRST + what.charAt(i + 1) - '0', FIRST + what.charAt(i + 2) - '0', what.charAt(i));
                i += 2;
            }
        }
    }

    private static void realsBeyondAllInts(int sign) {
        GrowthTest run = new GrowthTest(true, sign);
        run.grow(REALS);
        run.compare("grown");
        run.turn(LEVELS);
        float got = run.plane.bandReal(1, 3, 7, 7);
        expect.equalReal("as the model", got, run.naive.bandReal(1, 3, 7, 7));
        expect.isTrue("beyond all ints: " + got, got * sign > 2147483648f);
        expect.equal("as Java casts", run.plane.band(1, 3, 7, 7), sign > 0 ? Integer.MAX_VALUE : Integer.MIN_VALUE);
        run.calls += 2;
        run.compare("split");
        expect.isTrue("within the calls of an object", run.calls <= MOST_CALLS);
    }
}
