import java.util.ArrayList;
import java.util.List;

/** A way to make a plane that is in some state, as often as one likes. */
enum State {
    NEW(0, 0, 1, 1, 0, false),
    WHOLE_INTS(3, 5, 7, 6, 2, false),
    SPLIT_INTS(3, 5, 7, 6, 2, false),
    WHOLE_REALS(3, 5, 7, 6, 2, true),
    SPLIT_REALS(3, 5, 7, 6, 2, true),
    WHOLE_WITHOUT_LEVELS(5, 7, 3, 2, 0, false),
    SPLIT_WITHOUT_LEVELS(5, 7, 3, 2, 0, true),
    JOINED_TO_LESS(3, 5, 7, 6, 2, false),
    /** Of the column at 5 resolution 0 is without places: at 2, 1, none wide and one high. */
    WHOLE_WITHOUT_PLACES(5, 4, 1, 3, 2, true),
    SPLIT_WITHOUT_PLACES(5, 4, 1, 3, 2, false),
    FULL_WHOLE(1000000, 1000000, 1024, 16, 2, true),
    FULL_SPLIT(999999, 999999, 16, 1024, 2, false);

    /** Of planes with more numbers, each number is not asked for: a plane has 512 calls. */
    private static final int FEW = 50;

    private final int left;
    private final int top;
    private final int wide;
    private final int high;
    private final int levels;
    private final boolean real;

    State(int left, int top, int wide, int high, int levels, boolean real) {
        this.left = left;
        this.top = top;
        this.wide = wide;
        this.high = high;
        this.levels = levels;
        this.real = real;
    }

    PlaneSplitter make() {
        PlaneSplitter p = new PlaneSplitter();
        if (this == NEW) {
            return p;
        }
        p.begin(left, top, wide, high, levels, real);
        p.fill(12345, 6789, 1011);
        if (name().endsWith("WITHOUT_PLACES")) {
            p.split();
            p.join(0);
        }
        if (this == JOINED_TO_LESS) {
            p.split();
            p.join(1);
        }
        if (name().contains("SPLIT")) {
            p.split();
        }
        return p;
    }

    /** All that can be asked of a plane, and then what it answers when it is turned to and fro. */
    static List<String> allOf(PlaneSplitter p) {
        List<String> told = new ArrayList<>();
        int levels = levelsOf(p);
        told.add("levels " + levels);
        edges(p, levels, told);
        boolean isSplit = isSplit(p);
        told.add("split " + isSplit);
        numbers(p, levels, isSplit, told);
        turn(p, levels, isSplit);
        numbers(p, levels, !isSplit, told);
        turn(p, levels, !isSplit);
        numbers(p, levels, isSplit, told);
        kind(p, levels, isSplit, told);
        return told;
    }

    private static void turn(PlaneSplitter p, int levels, boolean isSplit) {
        if (isSplit) {
            p.join(levels);
        } else {
            p.split();
        }
    }

    /** There is a band 0 of the last level alone. */
    private static int levelsOf(PlaneSplitter p) {
        for (int level = 0; level <= 20; level++) {
            try {
                p.edge(level, 0, 0);
                return level;
            } catch (IllegalArgumentException e) {
                continue;
            }
        }
        return -1;
    }

    private static void edges(PlaneSplitter p, int levels, List<String> told) {
        for (int level = 0; level <= levels; level++) {
            for (int band = firstBand(level, levels); band < endOfBands(level); band++) {
                for (int w = 0; w < 4; w++) {
                    told.add("edge(" + level + ", " + band + ", " + w + ") = " + p.edge(level, band, w));
                }
            }
        }
    }

    private static int firstBand(int level, int levels) {
        return level == levels ? 0 : 1;
    }

    private static int endOfBands(int level) {
        return level == 0 ? 1 : 4;
    }

    /** A fill of a plane that is split throws; after it a plane without places is as it was. */
    private static boolean isSplit(PlaneSplitter p) {
        int levels = levelsOf(p);
        int[] plane = plane(p, levels);
        try {
            if (plane[2] * plane[3] == 0) {
                p.fill(1, 2, 3);
            } else {
                p.at(plane[0], plane[1]);
            }
            return false;
        } catch (IllegalStateException e) {
            return true;
        }
    }

    /** LEFT, TOP, WIDE and HIGH of the plane itself: of each, low and high ones of level 1 together. */
    private static int[] plane(PlaneSplitter p, int levels) {
        int[] sides = new int[4];
        for (int w = 0; w < 4; w++) {
            sides[w] = levels == 0 ? p.edge(0, 0, w) : p.edge(1, 1, w) + p.edge(1, 2, w);
        }
        return sides;
    }

    private static void numbers(PlaneSplitter p, int levels, boolean isSplit, List<String> told) {
        told.add("sum() = " + p.sum());
        int[] plane = plane(p, levels);
        if (plane[2] * plane[3] > FEW) {
            return;
        }
        if (!isSplit) {
            for (int y = plane[1]; y < plane[1] + plane[3]; y++) {
                for (int x = plane[0]; x < plane[0] + plane[2]; x++) {
                    told.add("at(" + x + ", " + y + ") = " + p.at(x, y) + ", " + p.real(x, y));
                }
            }
            return;
        }
        for (int level = 0; level <= levels; level++) {
            for (int band = firstBand(level, levels); band < endOfBands(level); band++) {
                numbersOfBand(p, level, band, told);
            }
        }
    }

    private static void numbersOfBand(PlaneSplitter p, int level, int band, List<String> told) {
        int left = p.edge(level, band, 0);
        int top = p.edge(level, band, 1);
        int right = left + p.edge(level, band, 2);
        int bottom = top + p.edge(level, band, 3);
        for (int y = top; y < bottom; y++) {
            for (int x = left; x < right; x++) {
                told.add("band(" + level + ", " + band + ", " + x + ", " + y + ") = " + p.band(level, band, x, y)
                        + ", " + p.bandReal(level, band, x, y));
            }
        }
    }

    /** A plane of ints keeps no fraction. */
    private static void kind(PlaneSplitter p, int levels, boolean isSplit, List<String> told) {
        if (!isSplit) {
            p.split();
        }
        for (int band = 0; band < endOfBands(levels); band++) {
            if (p.edge(levels, band, 2) * p.edge(levels, band, 3) > 0) {
                int x = p.edge(levels, band, 0);
                int y = p.edge(levels, band, 1);
                p.put(levels, band, x, y, 0.5f);
                told.add("half a one in band " + band + " = " + p.bandReal(levels, band, x, y));
            }
        }
    }
}
