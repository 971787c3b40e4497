import java.util.Set;
import java.util.TreeSet;

/**
 * Terms: ints wrap round. Promises 7, 8, 10, 11 and 13: of reals, ints as Java casts. No set and no
 * put reaches so far, but numbers grow while some are set and put anew between a split and a join.
 * The runs below were searched for with this in mind; + stands for 16,777,216 and - for -16,777,216.
 */
final class GrowthTest {
    private static final int LARGEST = 16777216;

    /** The most calls that an object is used for. */
    private static final int MOST_CALLS = 512;

    /**
     * At 8, 8, with 3 levels: a sign at a place of the plane, or . for a number that stays. The first
     * grid is set, the plane is split, the second grid is put where those places went, the plane is
     * joined, and so on.
     */
    private static final String[][] INTS = {
        {"++------", "+++-----", "-+++--++", "--++++--", "---+++--", "---+++-+", "--+---+-", "--+--+-+"},
        {"+---+-.-", "+++.-+-+", "--.-----", "-.-+---+", "+---.-+-", "++---.-.", "----+-.-", "---+-.-."},
        {".++---.-", "....----", "++----.-", "-.-..+--", "---...--", "---+..--", ".-+---.-", "+.---.-."},
        {"+.-.+.-.", "---+--..", "--.-.--.", ".+---++.", "+-.-.-+-", "---+-...", "-.--+...", "-+....+."},
        {"...---..", ".++--...", ".+----+.", "---+..--", "---...--", "-.-...--", "..+---.-", "-..--.-."},
        {"+.-.+.-.", "---+--..", "--.-.--.", ".+---.--", "+-.-.-+-", ".--+-...", "-.--+...", "...-..+."},
        {"...+--..", ".++--...", ".+----+.", "+--+..-.", "---...--", "-.-..---", "+.+---.-", "....-.-."},
        {"+...+...", "........", "......-.", "........", "+.....+.", "...+-..-", "..--+..+", "...-..+."},
        {"........", "........", "........", "........", "........", "........", ".....-.-", "....-.-."},
    };

    /**
     * What follows on the ints, when the first sums have wrapped round: a sign, and how far right and
     * down of the first place; at each / the plane is joined or split.
     */
    private static final String INTS_THEN = "+57/+45-56-24+57/+05/-75-35/+44+44+57/-47/-42+12+77/+30+64//+77/"
            + "-26-71-26/+50-63+10+45/-64/+26+37//+65/+66-21/+16+21-66/+45+44/+44/-24/+04+43+10+54/";

    /** At 1, 1, 16 wide and high, with 4 levels; told as what follows on the ints is, in hex. */
    private static final String REALS = "/+f7-3f+ff/-74/+73-f3+37+77-b7-7b+7f/-11-65-75-85-56-66-76-86-57-67-77-87"
            + "-97-68-78-69-89-7a/+31+13+33-47+77-97-b7+f7-7b+bb+7f+ff/-22-32-42-23-33-43-34-44-56-66-76-57-67"
            + "-77-58-68-78-88-79/+11+33-53-35+77-97-b7+f7-79-7b+7f+ff/-11-32-23-33-43-24-75-66-76-86-57-67-77"
            + "-87-68-78/+00+11-21-12+33-53-35+77+7f+ff/-11-32-42-23-33-43-34/+00+11-21-12+33+f7/-11-22-33-44"
            + "/+00+11+22-53/-10-01-11-33/+11-21-12+33-35/-10-01-11-33-43-34/+11-21-12+22+33/-10-01-11-33/+11"
            + "/-11-31-13/-21-12+33/";

    private static final Expect expect = new Expect();

    private final PlaneSplitter plane = new PlaneSplitter();
    private final NaivePlane naive = new NaivePlane();
    private final int first;
    private final int side;
    private final int levels;
    private final int sign;
    private int calls = 0;
    private boolean isSplit = false;

    private GrowthTest(int first, int side, int levels, boolean real, int sign) {
        this.first = first;
        this.side = side;
        this.levels = levels;
        this.sign = sign;
        plane.begin(first, first, side, side, levels, real);
        naive.begin(first, first, side, side, levels, real);
        calls++;
    }

    public static void main(String[] args) {
        Set<String> wrapped = new TreeSet<>();
        wrapped.addAll(intsWrap(1));
        wrapped.addAll(intsWrap(-1));
        String[] all = {
            "a + b", "a + b + 2", "a number less the half", "a number and the quarter", "a number less the quarter",
            "a number and the half", "twice a number",
        };
        for (String what : all) {
            expect.isTrue("some run makes this wrap round: " + what, wrapped.contains(what));
        }
        realsBeyondAllInts(1);
        realsBeyondAllInts(-1);
        expect.end();
    }

    private void grow(String[][] grids) {
        for (int k = 0; k < grids.length; k++) {
            if (k > 0) {
                turn(levels);
            }
            for (int y = 0; y < side; y++) {
                for (int x = 0; x < side; x++) {
                    change(first + x, first + y, grids[k][y].charAt(x));
                }
            }
        }
    }

    private void goOn(String what) {
        for (int i = 0; i < what.length(); i++) {
            if (what.charAt(i) == '/') {
                turn(levels);
                compare("turned");
            } else {
                int x = Character.digit(what.charAt(i + 1), 16);
                int y = Character.digit(what.charAt(i + 2), 16);
                change(first + x, first + y, what.charAt(i));
                i += 2;
            }
        }
    }

    private void change(int x, int y, char what) {
        if (what == '.') {
            return;
        }
        int v = (what == '+' ? LARGEST : -LARGEST) * sign;
        calls++;
        if (!isSplit) {
            plane.set(x, y, v);
            naive.set(x, y, v);
            return;
        }
        int level = Math.min(levels, 1 + Math.min(Integer.numberOfTrailingZeros(x), Integer.numberOfTrailingZeros(y)));
        int band = (x >> (level - 1) & 1) + 2 * (y >> (level - 1) & 1);
        plane.put(level, band, x >> level, y >> level, v);
        naive.put(level, band, x >> level, y >> level, v);
    }

    private void turn(int r) {
        calls++;
        if (isSplit) {
            plane.join(r);
            naive.join(r);
        } else {
            plane.split();
            naive.split();
        }
        isSplit = !isSplit;
    }

    private void compare(String what) {
        calls++;
        expect.equal(what + ": sum", plane.sum(), naive.sum());
    }

    private static Set<String> intsWrap(int sign) {
        GrowthTest run = new GrowthTest(8, 8, 3, false, sign);
        run.grow(INTS);
        run.compare("grown");
        expect.isTrue("nothing has wrapped round yet", run.naive.wrapped.isEmpty());
        run.turn(3);
        run.compare("split");
        expect.isTrue("something has wrapped round", !run.naive.wrapped.isEmpty());
        run.goOn(INTS_THEN);
        for (int r : new int[] {3, 2, 1, 0}) {
            run.turn(r);
            run.compare("joined to " + r);
            run.turn(r);
            run.compare("split again");
        }
        expect.isTrue("within the calls of an object", run.calls <= MOST_CALLS);
        return run.naive.wrapped;
    }

    private static void realsBeyondAllInts(int sign) {
        GrowthTest run = new GrowthTest(1, 16, 4, true, sign);
        run.goOn(REALS);
        run.asJavaCasts("whole", run.plane.real(1, 1), run.naive.real(1, 1), run.plane.at(1, 1));
        run.turn(4);
        run.compare("split");
        run.asJavaCasts("split", run.plane.bandReal(1, 3, 0, 0), run.naive.bandReal(1, 3, 0, 0),
                run.plane.band(1, 3, 0, 0));
        expect.isTrue("within the calls of an object", run.calls <= MOST_CALLS);
    }

    private void asJavaCasts(String what, float got, float due, int cast) {
        calls += 2;
        expect.equalReal(what + ": as the model", got, due);
        expect.isTrue(what + ": beyond all ints: " + got, got * sign > 2147483648f);
        expect.equal(what + ": as Java casts", cast, sign > 0 ? Integer.MAX_VALUE : Integer.MIN_VALUE);
    }
}
