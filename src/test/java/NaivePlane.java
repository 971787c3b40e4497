import java.math.BigDecimal;
import java.util.ArrayList;
import java.util.List;
import java.util.Map;
import java.util.Set;
import java.util.TreeMap;
import java.util.TreeSet;

/**
 * The document's words, one after the other and without any thought for speed: every band is a
 * map from places to numbers, and a line is one from places to numbers too. All numbers are held
 * as doubles, which hold every int and every float; each operation on reals is rounded to a float.
 */
final class NaivePlane {
    private static final double A = constant("-1.586134342059924");
    private static final double B = constant("-0.052980118572961");
    private static final double C = constant("0.882911075530934");
    private static final double D = constant("0.443506852043971");
    private static final double K = constant("1.230174104914001");
    private static final double L = constant("0.8128930661159609");

    /** A rectangle of numbers at their places. */
    static final class Grid {
        final int left;
        final int top;
        final int wide;
        final int high;
        final Map<Long, Double> numbers = new TreeMap<>();

        Grid(int left, int top, int wide, int high) {
            this.left = left;
            this.top = top;
            this.wide = wide;
            this.high = high;
            for (int y = top; y < top + high; y++) {
                for (int x = left; x < left + wide; x++) {
                    put(x, y, 0);
                }
            }
        }

        boolean has(int x, int y) {
            return numbers.containsKey(key(x, y));
        }

        double get(int x, int y) {
            return numbers.get(key(x, y));
        }

        void put(int x, int y, double v) {
            numbers.put(key(x, y), v);
        }

        /** Row by row, since the keys are sorted so. */
        Iterable<Double> all() {
            return numbers.values();
        }

        private static long key(int x, int y) {
            return ((long) y << 32) + x;
        }
    }

    /** The operations on ints that have wrapped round, so that a test can tell that it reached them. */
    final Set<String> wrapped = new TreeSet<>();

    private boolean real;
    private int levels;
    private boolean split;
    private Grid plane;

    /** The bands of each level; only the last level's band 0 is not null. */
    private List<Grid[]> bands = new ArrayList<>();

    NaivePlane() {
        begin(0, 0, 1, 1, 0, false);
    }

    private static double constant(String decimal) {
        return new BigDecimal(decimal).floatValue();
    }

    void begin(int left, int top, int wide, int high, int levels, boolean real) {
        if (left < 0 || left > 1000000 || top < 0 || top > 1000000 || wide < 1 || wide > 1024 || high < 1
                || high > 1024 || (long) wide * high > 16384 || levels < 0 || levels > 20) {
            throw new IllegalArgumentException();
        }
        this.plane = new Grid(left, top, wide, high);
        this.levels = levels;
        this.real = real;
        this.split = false;
    }

    void set(int x, int y, int v) {
        if (!plane.has(x, y) || v < -16777216 || v > 16777216) {
            throw new IllegalArgumentException();
        }
        whenWhole();
        plane.put(x, y, v);
    }

    void fill(int a, int b, int c) {
        whenWhole();
        for (int j = 0; j < plane.high; j++) {
            for (int i = 0; i < plane.wide; i++) {
                plane.put(plane.left + i, plane.top + j, Math.floorMod(a * i + b * j + c * i * j, 65536) - 32768);
            }
        }
    }

    void split() {
        whenWhole();
        bands = new ArrayList<>();
        Grid low = plane;
        for (int level = 1; level <= levels; level++) {
            Grid[] four = splitOnce(low);
            bands.add(four);
            low = four[0];
            four[0] = null;
        }
        if (levels > 0) {
            bands.get(levels - 1)[0] = low;
        }
        split = true;
    }

    void join(int r) {
        if (r < 0 || r > levels) {
            throw new IllegalArgumentException();
        }
        whenSplit();
        Grid low = bandOf(levels, 0);
        for (int level = levels; level > levels - r; level--) {
            Grid above = shapeOfBandZero(level - 1);
            bands.get(level - 1)[0] = low;
            low = joinOnce(above, bands.get(level - 1));
        }
        plane = low;
        split = false;
    }

    int at(int x, int y) {
        return (int) wholeNumber(x, y);
    }

    float real(int x, int y) {
        return (float) wholeNumber(x, y);
    }

    private double wholeNumber(int x, int y) {
        if (!plane.has(x, y)) {
            throw new IllegalArgumentException();
        }
        whenWhole();
        return plane.get(x, y);
    }

    int edge(int level, int band, int w) {
        if (w < 0 || w > 3) {
            throw new IllegalArgumentException();
        }
        return side(shapeOf(level, band), w);
    }

    /** What edge would answer of the plane itself, which no call of the face tells with levels. */
    int sideOfPlane(int w) {
        return side(plane, w);
    }

    private static int side(Grid g, int w) {
        return w == 0 ? g.left : w == 1 ? g.top : w == 2 ? g.wide : g.high;
    }

    int band(int level, int band, int x, int y) {
        return (int) number(level, band, x, y);
    }

    float bandReal(int level, int band, int x, int y) {
        return (float) number(level, band, x, y);
    }

    private double number(int level, int band, int x, int y) {
        if (!shapeOf(level, band).has(x, y)) {
            throw new IllegalArgumentException();
        }
        whenSplit();
        return bandOf(level, band).get(x, y);
    }

    void put(int level, int band, int x, int y, float v) {
        if (!shapeOf(level, band).has(x, y) || Float.isNaN(v) || Math.abs(v) > 16777216f) {
            throw new IllegalArgumentException();
        }
        whenSplit();
        bandOf(level, band).put(x, y, real ? v : (int) v);
    }

    int sum() {
        if (!split) {
            return sumWith(0, plane);
        }
        int sum = sumWith(0, bandOf(levels, 0));
        for (int level = levels; level >= 1; level--) {
            sum = sumWith(sum, bandOf(level, 1));
            sum = sumWith(sum, bandOf(level, 2));
            sum = sumWith(sum, bandOf(level, 3));
        }
        return sum;
    }

    private int sumWith(int sum, Grid g) {
        for (double v : g.all()) {
            sum = 31 * sum + (int) (real ? 8 * v : v);
        }
        return sum;
    }

    private void whenWhole() {
        if (split) {
            throw new IllegalStateException();
        }
    }

    private void whenSplit() {
        if (!split) {
            throw new IllegalStateException();
        }
    }

    private Grid bandOf(int level, int band) {
        return level == 0 ? plane : bands.get(level - 1)[band];
    }

    private Grid shapeOf(int level, int band) {
        boolean there = band == 0 ? level == levels : band >= 1 && band <= 3 && level >= 1 && level <= levels;
        if (!there) {
            throw new IllegalArgumentException();
        }
        if (level == 0) {
            return shapeOfBandZero(0);
        }
        return shapeBelow(shapeOfBandZero(level - 1), band % 2, band / 2);
    }

    private Grid shapeOfBandZero(int level) {
        Grid g = new Grid(plane.left, plane.top, plane.wide, plane.high);
        for (int i = 0; i < level; i++) {
            g = shapeBelow(g, 0, 0);
        }
        return g;
    }

    /** The places 2 k (or 2 k + 1, with an odd of 1) of g are those k of what comes. */
    private static Grid shapeBelow(Grid g, int oddAcross, int oddDown) {
        int[] across = span(g.left, g.wide, oddAcross);
        int[] down = span(g.top, g.high, oddDown);
        return new Grid(across[0], down[0], across[1], down[1]);
    }

    private static int[] span(int first, int count, int odd) {
        int start = first;
        while (start % 2 != odd) {
            start++;
        }
        int many = 0;
        for (int i = start; i < first + count; i += 2) {
            many++;
        }
        return new int[] {start / 2, many};
    }

    private Grid[] splitOnce(Grid from) {
        Grid g = copy(from);
        eachColumn(g, true);
        eachRow(g, true);
        Grid[] four = new Grid[4];
        for (int band = 0; band < 4; band++) {
            four[band] = shapeBelow(g, band % 2, band / 2);
        }
        for (int y = g.top; y < g.top + g.high; y++) {
            for (int x = g.left; x < g.left + g.wide; x++) {
                four[x % 2 + 2 * (y % 2)].put(x / 2, y / 2, g.get(x, y));
            }
        }
        return four;
    }

    private Grid joinOnce(Grid shape, Grid[] four) {
        Grid g = copy(shape);
        for (int y = g.top; y < g.top + g.high; y++) {
            for (int x = g.left; x < g.left + g.wide; x++) {
                g.put(x, y, four[x % 2 + 2 * (y % 2)].get(x / 2, y / 2));
            }
        }
        eachRow(g, false);
        eachColumn(g, false);
        return g;
    }

    private static Grid copy(Grid from) {
        Grid g = new Grid(from.left, from.top, from.wide, from.high);
        g.numbers.putAll(from.numbers);
        return g;
    }

    private void eachColumn(Grid g, boolean splits) {
        for (int x = g.left; x < g.left + g.wide; x++) {
            TreeMap<Integer, Double> line = new TreeMap<>();
            for (int y = g.top; y < g.top + g.high; y++) {
                line.put(y, g.get(x, y));
            }
            turn(line, splits);
            for (int y = g.top; y < g.top + g.high; y++) {
                g.put(x, y, line.get(y));
            }
        }
    }

    private void eachRow(Grid g, boolean splits) {
        for (int y = g.top; y < g.top + g.high; y++) {
            TreeMap<Integer, Double> line = new TreeMap<>();
            for (int x = g.left; x < g.left + g.wide; x++) {
                line.put(x, g.get(x, y));
            }
            turn(line, splits);
            for (int x = g.left; x < g.left + g.wide; x++) {
                g.put(x, y, line.get(x));
            }
        }
    }

    private void turn(TreeMap<Integer, Double> line, boolean splits) {
        if (line.size() == 1 && line.firstKey() % 2 == 1) {
            double v = line.get(line.firstKey());
            double halved = real ? (float) (v / 2) : Math.floor(v / 2);
            line.put(line.firstKey(), splits ? keep("twice a number", 2 * v) : halved);
        }
        if (line.size() < 2) {
            return;
        }
        if (real && splits) {
            add(line, 1, A, 1);
            add(line, 0, B, 1);
            add(line, 1, C, 1);
            add(line, 0, D, 1);
            times(line, 1, K);
            times(line, 0, L);
        } else if (real) {
            times(line, 0, K);
            times(line, 1, L);
            add(line, 0, D, -1);
            add(line, 1, C, -1);
            add(line, 0, B, -1);
            add(line, 1, A, -1);
        } else if (splits) {
            add(line, 1, 2, -1);
            add(line, 0, 4, 1);
        } else {
            add(line, 0, 4, -1);
            add(line, 1, 2, 1);
        }
    }

    /** For reals with = factor; for ints 2 stands for the half and 4 for the quarter. */
    private void add(TreeMap<Integer, Double> line, int odd, double with, int sign) {
        TreeMap<Integer, Double> before = new TreeMap<>(line);
        int i0 = line.firstKey();
        int i1 = line.lastKey() + 1;
        for (int i = i0; i < i1; i++) {
            if (i % 2 == odd) {
                double a = before.get(i - 1 == i0 - 1 ? i0 + 1 : i - 1);
                double b = before.get(i + 1 == i1 ? i1 - 2 : i + 1);
                double part;
                if (real) {
                    part = (float) (with * (float) (a + b));
                } else if (with == 2) {
                    part = Math.floor(keep("a + b", a + b) / 2);
                } else {
                    part = Math.floor(keep("a + b + 2", a + b + 2) / 4);
                }
                double v = before.get(i);
                String of = with == 2 ? "the half" : "the quarter";
                line.put(i, sign > 0 ? keep("a number and " + of, v + part) : keep("a number less " + of, v - part));
            }
        }
    }

    private void times(TreeMap<Integer, Double> line, int odd, double factor) {
        for (int i : new ArrayList<>(line.keySet())) {
            if (i % 2 == odd) {
                line.put(i, keep("a product", line.get(i) * factor));
            }
        }
    }

    /** As a float, or as an int that has wrapped round. */
    private double keep(String what, double v) {
        if (real) {
            return (float) v;
        }
        int wrappedRound = (int) (long) v;
        if (wrappedRound != v) {
            wrapped.add(what);
        }
        return wrappedRound;
    }
}
