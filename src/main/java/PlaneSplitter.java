/**
 * Splits a plane of numbers into the bands of a wavelet, in some levels, and joins them again.
 *
 * <p>A number never moves while its plane is split or joined: what is place k of band 0 of level n
 * lies at place k * 2^n of the plane, and what is place k of a high band of level n lies at place
 * (2 k + 1) * 2^(n - 1). So one row of numbers holds the plane, whole or split, and no call needs
 * another row beside it.
 */
public final class PlaneSplitter {
    private static final int FARTHEST = 1000000;
    private static final int LONGEST = 1024;
    private static final int MOST_NUMBERS = 16384;
    private static final int MOST_LEVELS = 20;
    private static final int LARGEST = 16777216;

    private static final int LAST_BAND = 3;
    private static final int LAST_EDGE = 3;

    private final Numbers ints;
    private final Numbers reals;

    /** The one of ints and reals that the plane is of. */
    private Numbers numbers;

    private int left;
    private int top;
    private int wide;
    private int high;
    private int levels;
    private boolean isSplit;

    public PlaneSplitter() {
        ints = new IntNumbers();
        reals = new RealNumbers();
        numbers = ints;
        left = 0;
        top = 0;
        wide = 1;
        high = 1;
        levels = 0;
        isSplit = false;
    }

    public void begin(int left, int top, int wide, int high, int levels, boolean real)
            throws IllegalArgumentException {
        if (!isWithin(left, 0, FARTHEST) || !isWithin(top, 0, FARTHEST)) {
            throw new IllegalArgumentException("left or top is not 0 .. 1,000,000");
        }
        if (!isWithin(wide, 1, LONGEST) || !isWithin(high, 1, LONGEST)) {
            throw new IllegalArgumentException("wide or high is not 1 .. 1024");
        }
        if (wide * high > MOST_NUMBERS) {
            throw new IllegalArgumentException("more than 16,384 numbers");
        }
        if (!isWithin(levels, 0, MOST_LEVELS)) {
            throw new IllegalArgumentException("levels is not 0 .. 20");
        }
        lay(left, top, wide, high);
        this.levels = levels;
        isSplit = false;
        numbers = real ? reals : ints;
        numbers.clear(wide * high);
    }

    public void set(int x, int y, int v) throws IllegalArgumentException, IllegalStateException {
        refuseNoPlace(0, 0, x, y);
        if (!isWithin(v, -LARGEST, LARGEST)) {
            throw new IllegalArgumentException("v is not -16,777,216 .. 16,777,216");
        }
        refuseSplit();
        numbers.store(indexOf(0, 0, x, y), v);
    }

    public void fill(int a, int b, int c) throws IllegalStateException {
        refuseSplit();
        for (int j = 0; j < high; j++) {
            for (int i = 0; i < wide; i++) {
                int v = a * i + b * j + c * i * j;
                numbers.store(j * wide + i, (v & 65535) - 32768);
            }
        }
    }

    public void split() throws IllegalStateException {
        refuseSplit();
        for (int level = 1; level <= levels; level++) {
            turnColumns(level - 1, false);
            turnRows(level - 1, false);
        }
        isSplit = true;
    }

    public void join(int r) throws IllegalArgumentException, IllegalStateException {
        if (!isWithin(r, 0, levels)) {
            throw new IllegalArgumentException("there is no such resolution");
        }
        refuseWhole();
        for (int level = levels; level > levels - r; level--) {
            turnRows(level - 1, true);
            turnColumns(level - 1, true);
        }
        keepLowest(levels - r);
        isSplit = false;
    }

    public int at(int x, int y) throws IllegalArgumentException, IllegalStateException {
        refuseNoPlace(0, 0, x, y);
        refuseSplit();
        return numbers.asInt(indexOf(0, 0, x, y));
    }

    public float real(int x, int y) throws IllegalArgumentException, IllegalStateException {
        refuseNoPlace(0, 0, x, y);
        refuseSplit();
        return numbers.asReal(indexOf(0, 0, x, y));
    }

    public int edge(int level, int band, int w) throws IllegalArgumentException {
        refuseNoBand(level, band);
        if (!isWithin(w, 0, LAST_EDGE)) {
            throw new IllegalArgumentException("w is not 0 .. 3");
        }
        switch (w) {
            case 0:
                return leftOf(level, band);
            case 1:
                return topOf(level, band);
            case 2:
                return rightOf(level, band) - leftOf(level, band);
            default:
                return bottomOf(level, band) - topOf(level, band);
        }
    }

    public int band(int level, int band, int x, int y)
            throws IllegalArgumentException, IllegalStateException {
        refuseNoBand(level, band);
        refuseNoPlace(level, band, x, y);
        refuseWhole();
        return numbers.asInt(indexOf(level, band, x, y));
    }

    public float bandReal(int level, int band, int x, int y)
            throws IllegalArgumentException, IllegalStateException {
        refuseNoBand(level, band);
        refuseNoPlace(level, band, x, y);
        refuseWhole();
        return numbers.asReal(indexOf(level, band, x, y));
    }

    public void put(int level, int band, int x, int y, float v)
            throws IllegalArgumentException, IllegalStateException {
        refuseNoBand(level, band);
        refuseNoPlace(level, band, x, y);
        // Asked this way round, since what is no number at all is neither within nor outside.
        boolean fits = v >= -LARGEST && v <= LARGEST;
        if (!fits) {
            throw new IllegalArgumentException("v is not -16,777,216 .. 16,777,216");
        }
        refuseWhole();
        numbers.storeReal(indexOf(level, band, x, y), v);
    }

    public int sum() {
        if (!isSplit) {
            return sumWith(0, 0, 0);
        }
        int sum = sumWith(0, levels, 0);
        for (int level = levels; level > 0; level--) {
            for (int band = 1; band <= LAST_BAND; band++) {
                sum = sumWith(sum, level, band);
            }
        }
        return sum;
    }

    private int sumWith(int before, int level, int band) {
        int sum = before;
        int right = rightOf(level, band);
        int bottom = bottomOf(level, band);
        for (int y = topOf(level, band); y < bottom; y++) {
            for (int x = leftOf(level, band); x < right; x++) {
                sum = 31 * sum + numbers.summand(indexOf(level, band, x, y));
            }
        }
        return sum;
    }

    private void lay(int newLeft, int newTop, int newWide, int newHigh) {
        left = newLeft;
        top = newTop;
        wide = newWide;
        high = newHigh;
    }

    /** Splits or joins the columns of band 0 of a level; that of level 0 is the plane itself. */
    private void turnColumns(int level, boolean isJoined) {
        int first = topOf(level, 0);
        int count = bottomOf(level, 0) - first;
        int right = rightOf(level, 0);
        for (int x = leftOf(level, 0); x < right; x++) {
            int index = indexOf(level, 0, x, first);
            numbers.turnLine(index, wide << level, count, first & 1, isJoined);
        }
    }

    private void turnRows(int level, boolean isJoined) {
        int first = leftOf(level, 0);
        int count = rightOf(level, 0) - first;
        int bottom = bottomOf(level, 0);
        for (int y = topOf(level, 0); y < bottom; y++) {
            int index = indexOf(level, 0, first, y);
            numbers.turnLine(index, 1 << level, count, first & 1, isJoined);
        }
    }

    /** Makes band 0 of a level the plane. */
    private void keepLowest(int level) {
        int newLeft = leftOf(level, 0);
        int newTop = topOf(level, 0);
        int right = rightOf(level, 0);
        int bottom = bottomOf(level, 0);
        // No number goes to an index above its own, so none is written over before it has moved.
        int to = 0;
        for (int y = newTop; y < bottom; y++) {
            for (int x = newLeft; x < right; x++) {
                numbers.move(indexOf(level, 0, x, y), to);
                to++;
            }
        }
        lay(newLeft, newTop, right - newLeft, bottom - newTop);
    }

    private int leftOf(int level, int band) {
        return placeInBand(left, level, isHighAcross(band));
    }

    private int rightOf(int level, int band) {
        return placeInBand(left + wide, level, isHighAcross(band));
    }

    private int topOf(int level, int band) {
        return placeInBand(top, level, isHighDown(band));
    }

    private int bottomOf(int level, int band) {
        return placeInBand(top + high, level, isHighDown(band));
    }

    private static boolean isHighAcross(int band) {
        return (band & 1) != 0;
    }

    private static boolean isHighDown(int band) {
        return (band & 2) != 0;
    }

    /** The first place of a band that comes from this place of the plane or from one behind it. */
    private static int placeInBand(int place, int level, boolean isHigh) {
        if (isHigh) {
            return placeInBandZero(place, level - 1) >> 1;
        }
        return placeInBandZero(place, level);
    }

    private static int placeInBandZero(int place, int level) {
        return (place + (1 << level) - 1) >> level;
    }

    /** Where in the row of numbers a band's number lies; the place must be one of the band. */
    private int indexOf(int level, int band, int x, int y) {
        int across = placeInPlane(x, level, isHighAcross(band)) - left;
        int down = placeInPlane(y, level, isHighDown(band)) - top;
        return down * wide + across;
    }

    private static int placeInPlane(int place, int level, boolean isHigh) {
        return isHigh ? (2 * place + 1) << (level - 1) : place << level;
    }

    private boolean hasBand(int level, int band) {
        if (band == 0) {
            return level == levels;
        }
        return isWithin(band, 1, LAST_BAND) && isWithin(level, 1, levels);
    }

    private boolean hasPlace(int level, int band, int x, int y) {
        return x >= leftOf(level, band) && x < rightOf(level, band)
                && y >= topOf(level, band) && y < bottomOf(level, band);
    }

    private static boolean isWithin(int v, int least, int most) {
        return v >= least && v <= most;
    }

    private void refuseNoBand(int level, int band) {
        if (!hasBand(level, band)) {
            throw new IllegalArgumentException("there is no such band");
        }
    }

    private void refuseNoPlace(int level, int band, int x, int y) {
        if (!hasPlace(level, band, x, y)) {
            throw new IllegalArgumentException("there is no such place");
        }
    }

    private void refuseSplit() {
        if (isSplit) {
            throw new IllegalStateException("the plane is split");
        }
    }

    private void refuseWhole() {
        if (!isSplit) {
            throw new IllegalStateException("the plane is whole");
        }
    }

    /**
     * A row of numbers of one kind, with that kind's wavelet. It is kept from plane to plane and
     * grows by doubling, so that many planes cost little more room than the largest of them.
     *
     * <p>A line of a plane is told by the index of its first number, the step from one number to
     * the next, the count of its numbers, and whether its first place is odd (1) or even (0).
     */
    private abstract static class Numbers {
        /** Makes room for so many numbers, all 0. */
        abstract void clear(int count);

        abstract void store(int index, int v);

        abstract void storeReal(int index, float v);

        abstract int asInt(int index);

        abstract float asReal(int index);

        /** What the number counts for in a sum. */
        abstract int summand(int index);

        abstract void move(int from, int to);

        abstract void makeDouble(int index);

        abstract void makeHalf(int index);

        /** Splits a line of more than one number. */
        abstract void splitLong(int first, int step, int count, int odd);

        /** Joins a line of more than one number. */
        abstract void joinLong(int first, int step, int count, int odd);

        /** Splits or joins a line of any count; an empty one has no first number to touch. */
        final void turnLine(int first, int step, int count, int odd, boolean isJoined) {
            if (count > 1) {
                if (isJoined) {
                    joinLong(first, step, count, odd);
                } else {
                    splitLong(first, step, count, odd);
                }
            } else if (count == 1 && odd == 1) {
                if (isJoined) {
                    makeHalf(first);
                } else {
                    makeDouble(first);
                }
            }
        }

        static int roomFor(int count) {
            return Math.min(2 * count, MOST_NUMBERS);
        }

        /** Where the i-th number of a line has its neighbour before it. */
        static int before(int index, int step, int i) {
            return i > 0 ? index - step : index + step;
        }

        /** Where the i-th number of a line has its neighbour behind it. */
        static int behind(int index, int step, int i, int count) {
            return i + 1 < count ? index + step : index - step;
        }
    }

    private static final class IntNumbers extends Numbers {
        private int[] row = new int[1];

        void clear(int count) {
            if (row.length < count) {
                row = new int[roomFor(count)];
                return;
            }
            for (int i = 0; i < count; i++) {
                row[i] = 0;
            }
        }

        void store(int index, int v) {
            row[index] = v;
        }

        void storeReal(int index, float v) {
            row[index] = (int) v;
        }

        int asInt(int index) {
            return row[index];
        }

        float asReal(int index) {
            return (float) row[index];
        }

        int summand(int index) {
            return row[index];
        }

        void move(int from, int to) {
            row[to] = row[from];
        }

        void makeDouble(int index) {
            row[index] = row[index] * 2;
        }

        void makeHalf(int index) {
            row[index] = row[index] >> 1;
        }

        void splitLong(int first, int step, int count, int odd) {
            addHalves(first, step, count, 1 - odd, -1);
            addQuarters(first, step, count, odd, 1);
        }

        void joinLong(int first, int step, int count, int odd) {
            addQuarters(first, step, count, odd, -1);
            addHalves(first, step, count, 1 - odd, 1);
        }

        /** To every second number from the one at start on; sign is 1, or -1 to subtract. */
        private void addHalves(int first, int step, int count, int start, int sign) {
            for (int i = start; i < count; i += 2) {
                int index = first + i * step;
                row[index] += sign * (besides(index, step, i, count) >> 1);
            }
        }

        private void addQuarters(int first, int step, int count, int start, int sign) {
            for (int i = start; i < count; i += 2) {
                int index = first + i * step;
                row[index] += sign * ((besides(index, step, i, count) + 2) >> 2);
            }
        }

        private int besides(int index, int step, int i, int count) {
            return row[before(index, step, i)] + row[behind(index, step, i, count)];
        }
    }

    private static final class RealNumbers extends Numbers {
        // Fields of the object, since the rules allow no static floats.
        private final float liftA = -1.586134342059924f;
        private final float liftB = -0.052980118572961f;
        private final float liftC = 0.882911075530934f;
        private final float liftD = 0.443506852043971f;
        private final float scaleK = 1.230174104914001f;
        private final float scaleL = 0.8128930661159609f;

        private float[] row = new float[1];

        void clear(int count) {
            if (row.length < count) {
                row = new float[roomFor(count)];
                return;
            }
            for (int i = 0; i < count; i++) {
                row[i] = 0.0f;
            }
        }

        void store(int index, int v) {
            row[index] = (float) v;
        }

        void storeReal(int index, float v) {
            row[index] = v;
        }

        int asInt(int index) {
            return (int) row[index];
        }

        float asReal(int index) {
            return row[index];
        }

        int summand(int index) {
            return (int) (8.0f * row[index]);
        }

        void move(int from, int to) {
            row[to] = row[from];
        }

        void makeDouble(int index) {
            row[index] = row[index] * 2.0f;
        }

        void makeHalf(int index) {
            row[index] = row[index] / 2.0f;
        }

        void splitLong(int first, int step, int count, int odd) {
            int atOdd = 1 - odd;
            int atEven = odd;
            lift(first, step, count, atOdd, liftA);
            lift(first, step, count, atEven, liftB);
            lift(first, step, count, atOdd, liftC);
            lift(first, step, count, atEven, liftD);
            scale(first, step, count, atOdd, scaleK);
            scale(first, step, count, atEven, scaleL);
        }

        // To subtract a product is, bit for bit, to add that of the factor with the other sign.
        void joinLong(int first, int step, int count, int odd) {
            int atOdd = 1 - odd;
            int atEven = odd;
            scale(first, step, count, atEven, scaleK);
            scale(first, step, count, atOdd, scaleL);
            lift(first, step, count, atEven, -liftD);
            lift(first, step, count, atOdd, -liftC);
            lift(first, step, count, atEven, -liftB);
            lift(first, step, count, atOdd, -liftA);
        }

        /** Adds to every second number, from the one at start on, factor times its neighbours. */
        private void lift(int first, int step, int count, int start, float factor) {
            for (int i = start; i < count; i += 2) {
                int index = first + i * step;
                float besides = row[before(index, step, i)] + row[behind(index, step, i, count)];
                row[index] = row[index] + factor * besides;
            }
        }

        private void scale(int first, int step, int count, int start, float factor) {
            for (int i = start; i < count; i += 2) {
                int index = first + i * step;
                row[index] = row[index] * factor;
            }
        }
    }
}
