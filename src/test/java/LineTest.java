/** Terms: how a line is split and joined. Every line is tried as a row and as a column. */
final class LineTest {
    private static final float A = -1.586134342059924f;
    private static final float B = -0.052980118572961f;
    private static final float C = 0.882911075530934f;
    private static final float D = 0.443506852043971f;
    private static final float K = 1.230174104914001f;
    private static final float L = 0.8128930661159609f;

    private static final Expect expect = new Expect();

    public static void main(String[] args) {
        for (boolean across : new boolean[] {true, false}) {
            bothEndsOfALine(across);
            twoPlaces(across);
            halfGoesDown(across);
            quarterGoesDown(across);
            halfGoesDownWhenJoined(across);
            quarterGoesDownWhenJoined(across);
            onePlace(across);
            onePlaceJoined(across);
            twoReals(across);
            eachOperationIsRounded(across);
            joinedTimesTheOtherFactor(across);
            realsAtBothEnds(across);
        }
        onePlaceAcrossAndDown();
        expect.end();
    }

    private static PlaneSplitter line(boolean across, int first, boolean real, int... numbers) {
        PlaneSplitter p = new PlaneSplitter();
        if (across) {
            p.begin(first, 0, numbers.length, 1, 1, real);
        } else {
            p.begin(0, first, 1, numbers.length, 1, real);
        }
        for (int i = 0; i < numbers.length; i++) {
            p.set(across ? first + i : 0, across ? 0 : first + i, numbers[i]);
        }
        return p;
    }

    private static int highBand(boolean across) {
        return across ? 1 : 2;
    }

    private static int at(boolean across, PlaneSplitter p, int place) {
        return across ? p.at(place, 0) : p.at(0, place);
    }

    private static float real(boolean across, PlaneSplitter p, int place) {
        return across ? p.real(place, 0) : p.real(0, place);
    }

    private static int band(boolean across, PlaneSplitter p, int band, int place) {
        return across ? p.band(1, band, place, 0) : p.band(1, band, 0, place);
    }

    private static float bandReal(boolean across, PlaneSplitter p, int band, int place) {
        return across ? p.bandReal(1, band, place, 0) : p.bandReal(1, band, 0, place);
    }

    private static void put(boolean across, PlaneSplitter p, int band, int place, float v) {
        if (across) {
            p.put(1, band, place, 0, v);
        } else {
            p.put(1, band, 0, place, v);
        }
    }

    private static void lows(boolean across, PlaneSplitter p, int first, int... due) {
        numbers(across, p, 0, first, due);
    }

    private static void highs(boolean across, PlaneSplitter p, int first, int... due) {
        numbers(across, p, highBand(across), first, due);
    }

    private static void numbers(boolean across, PlaneSplitter p, int band, int first, int... due) {
        expect.equal("first place of band " + band, p.edge(1, band, across ? 0 : 1), first);
        expect.equal("count of band " + band, p.edge(1, band, across ? 2 : 3), due.length);
        for (int i = 0; i < due.length; i++) {
            expect.equal("band " + band + " at " + (first + i), band(across, p, band, first + i), due[i]);
        }
    }

    private static void joinsTo(boolean across, PlaneSplitter p, int first, int... due) {
        p.join(1);
        for (int i = 0; i < due.length; i++) {
            expect.equal("joined at " + (first + i), at(across, p, first + i), due[i]);
        }
    }

    /** The first and the last place may be odd or even; the neighbour beyond is the one within. */
    private static void bothEndsOfALine(boolean across) {
        PlaneSplitter p = line(across, 0, false, 1, 5, 2, 9);
        p.split();
        lows(across, p, 0, 3, 5);
        highs(across, p, 0, 4, 7);
        joinsTo(across, p, 0, 1, 5, 2, 9);
        PlaneSplitter q = line(across, 6, false, 1, 5, 2, 9, -4);
        q.split();
        lows(across, q, 3, 3, 6, 1);
        highs(across, q, 3, 4, 10);
        joinsTo(across, q, 6, 1, 5, 2, 9, -4);
        PlaneSplitter r = line(across, 1, false, 1, 5, 2, 9);
        r.split();
        lows(across, r, 1, 3, 7);
        highs(across, r, 0, -4, -5);
        joinsTo(across, r, 1, 1, 5, 2, 9);
        PlaneSplitter s = line(across, 3, false, 4, -3, 10, 6, 1);
        s.split();
        lows(across, s, 2, 1, 7);
        highs(across, s, 1, 7, 9, -5);
        joinsTo(across, s, 3, 4, -3, 10, 6, 1);
    }

    /** The least line that is split: each place has the other as both its neighbours. */
    private static void twoPlaces(boolean across) {
        PlaneSplitter p = line(across, 2, false, 10, 3);
        p.split();
        lows(across, p, 1, 7);
        highs(across, p, 1, -7);
        joinsTo(across, p, 2, 10, 3);
        PlaneSplitter q = line(across, 3, false, 10, 3);
        q.split();
        lows(across, q, 2, 7);
        highs(across, q, 1, 7);
        joinsTo(across, q, 3, 10, 3);
    }

    private static void halfGoesDown(boolean across) {
        int[] sums = {-5, -4, -3, -2, -1, 0, 1, 2, 3, 4, 5};
        int[] halves = {-3, -2, -2, -1, -1, 0, 0, 1, 1, 2, 2};
        for (int k = 0; k < sums.length; k++) {
            PlaneSplitter p = line(across, 4, false, sums[k] - 7, 100, 7);
            p.split();
            highs(across, p, 2, 100 - halves[k]);
        }
    }

    private static void quarterGoesDown(boolean across) {
        // Of the two high numbers: their sum, and the quarter of it and 2.
        int[] sums = {-11, -10, -9, -7, -6, -5, -3, -2, -1, 0, 1, 2, 5, 6};
        int[] quarters = {-3, -2, -2, -2, -1, -1, -1, 0, 0, 0, 0, 1, 1, 2};
        for (int k = 0; k < sums.length; k++) {
            PlaneSplitter p = line(across, 1, false, sums[k] + 20, 0, -20);
            p.split();
            highs(across, p, 0, sums[k] + 20, -20);
            lows(across, p, 1, quarters[k]);
        }
    }

    private static void halfGoesDownWhenJoined(boolean across) {
        int[] sums = {-5, -4, -3, -2, -1, 0, 1, 2, 3};
        int[] halves = {-3, -2, -2, -1, -1, 0, 0, 1, 1};
        for (int k = 0; k < sums.length; k++) {
            PlaneSplitter p = line(across, 4, false, 0, 0, 0);
            p.split();
            // With a high number of -1 the quarter is 0, so the low ones are the even ones.
            put(across, p, 0, 2, sums[k] - 7);
            put(across, p, 0, 3, 7);
            put(across, p, highBand(across), 2, -1);
            joinsTo(across, p, 4, sums[k] - 7, -1 + halves[k], 7);
        }
    }

    private static void quarterGoesDownWhenJoined(boolean across) {
        int[] sums = {-11, -10, -9, -7, -6, -5, -3, -2, -1, 0, 1, 2, 5, 6};
        int[] quarters = {-3, -2, -2, -2, -1, -1, -1, 0, 0, 0, 0, 1, 1, 2};
        for (int k = 0; k < sums.length; k++) {
            PlaneSplitter p = line(across, 1, false, 0, 0, 0);
            p.split();
            put(across, p, 0, 1, 50);
            put(across, p, highBand(across), 0, sums[k] + 20);
            put(across, p, highBand(across), 1, -20);
            int even = 50 - quarters[k];
            joinsTo(across, p, 1, sums[k] + 20 + even, even, -20 + even);
        }
    }

    private static void onePlace(boolean across) {
        for (int v : new int[] {0, 1, -1, 7, -7, 16777216, -16777216}) {
            for (boolean real : new boolean[] {false, true}) {
                for (int even : new int[] {0, 4, 1000000}) {
                    PlaneSplitter p = line(across, even, real, v);
                    p.split();
                    expect.equal("one number at " + even, band(across, p, 0, even / 2), v);
                    expect.equal("no high number", p.edge(1, highBand(across), across ? 2 : 3), 0);
                }
                for (int odd : new int[] {1, 5, 999999}) {
                    PlaneSplitter p = line(across, odd, real, v);
                    p.split();
                    expect.equal("one number at " + odd, band(across, p, highBand(across), odd / 2), 2 * v);
                    expect.equal("no low number", p.edge(1, 0, across ? 2 : 3), 0);
                }
            }
        }
    }

    private static void onePlaceJoined(boolean across) {
        int[] values = {0, 1, -1, 2, -2, 7, -7, 16777215, -16777215, 16777216, -16777216};
        int[] halves = {0, 0, -1, 1, -1, 3, -4, 8388607, -8388608, 8388608, -8388608};
        for (int k = 0; k < values.length; k++) {
            PlaneSplitter p = line(across, 5, false, 9);
            p.split();
            put(across, p, highBand(across), 2, values[k]);
            joinsTo(across, p, 5, halves[k]);
            PlaneSplitter q = line(across, 4, false, 9);
            q.split();
            put(across, q, 0, 2, values[k]);
            joinsTo(across, q, 4, values[k]);
            PlaneSplitter r = line(across, 5, true, 9);
            r.split();
            put(across, r, highBand(across), 2, values[k]);
            r.join(1);
            expect.equalReal("half of a real " + values[k], real(across, r, 5), values[k] / 2.0f);
            PlaneSplitter s = line(across, 4, true, 9);
            s.split();
            put(across, s, 0, 2, values[k]);
            s.join(1);
            expect.equalReal("an even real " + values[k], real(across, s, 4), values[k]);
        }
    }

    /** One place that is odd across and down is doubled, and halved, twice. */
    private static void onePlaceAcrossAndDown() {
        int[][] places = {{4, 8, 0, 1}, {5, 8, 1, 2}, {4, 7, 2, 2}, {5, 7, 3, 4}};
        for (int[] a : places) {
            for (boolean real : new boolean[] {false, true}) {
                PlaneSplitter p = new PlaneSplitter();
                p.begin(a[0], a[1], 1, 1, 1, real);
                p.set(a[0], a[1], -16777216);
                p.split();
                expect.equal("band " + a[2], p.band(1, a[2], a[0] / 2, a[1] / 2), -16777216L * a[3]);
                p.put(1, a[2], a[0] / 2, a[1] / 2, -7f);
                p.join(1);
                float due = -7f / a[3];
                expect.equalReal("joined", p.real(a[0], a[1]), real ? due : (float) Math.floor(due));
            }
        }
    }

    private static void twoReals(boolean across) {
        PlaneSplitter p = line(across, 0, true, 10, 3);
        p.split();
        float odd = 3f + A * (10f + 10f);
        float even = 10f + B * (odd + odd);
        odd = odd + C * (even + even);
        even = even + D * (odd + odd);
        expect.equalReal("low", bandReal(across, p, 0, 0), even * L);
        expect.equalReal("high", bandReal(across, p, highBand(across), 0), odd * K);
        put(across, p, 0, 0, 10.3f);
        put(across, p, highBand(across), 0, 3.7f);
        p.join(1);
        even = 10.3f * K;
        odd = 3.7f * L;
        even = even - D * (odd + odd);
        odd = odd - C * (even + even);
        even = even - B * (odd + odd);
        odd = odd - A * (even + even);
        expect.equalReal("even", real(across, p, 0), even);
        expect.equalReal("odd", real(across, p, 1), odd);
    }

    /** In doubles, or with a product that is not rounded before it is added, other numbers come. */
    private static void eachOperationIsRounded(boolean across) {
        int otherInDoubles = 0;
        int otherUnrounded = 0;
        for (int v = 16777216; v > 16777216 - 2000; v -= 37) {
            PlaneSplitter p = line(across, 1, true, v - 12345, v, v / 3);
            p.split();
            float a = v - 12345;
            float b = v / 3;
            float even = v;
            float odd = a + A * (even + even);
            float oddToo = b + A * (even + even);
            float low = even + B * (odd + oddToo);
            odd = odd + C * (low + low);
            oddToo = oddToo + C * (low + low);
            low = (low + D * (odd + oddToo)) * L;
            expect.equalReal("low", bandReal(across, p, 0, 1), low);
            expect.equalReal("high", bandReal(across, p, highBand(across), 0), odd * K);
            expect.equalReal("high", bandReal(across, p, highBand(across), 1), oddToo * K);
            double inDoubles = ((double) a + (double) A * ((double) even + even));
            inDoubles = inDoubles + C * (even + B * (inDoubles + (b + (double) A * (even + even)))) * 2;
            otherInDoubles += (float) (inDoubles * K) != odd * K ? 1 : 0;
            otherUnrounded += Math.fma(A, even + even, a) != a + A * (even + even) ? 1 : 0;
        }
        expect.isTrue("the numbers are such that doubles would show", otherInDoubles > 0);
        expect.isTrue("the numbers are such that an unrounded product would show", otherUnrounded > 0);
    }

    /** To multiply by K is not, to the last bit, to divide by L. */
    private static void joinedTimesTheOtherFactor(boolean across) {
        int otherDivided = 0;
        for (int v = 1000; v < 1100; v++) {
            PlaneSplitter p = line(across, 0, true, 0, 0);
            p.split();
            put(across, p, 0, 0, v / 7.0f);
            put(across, p, highBand(across), 0, v / 9.0f);
            p.join(1);
            float even = v / 7.0f * K;
            float odd = v / 9.0f * L;
            otherDivided += even != v / 7.0f / L || odd != v / 9.0f / K ? 1 : 0;
            even = even - D * (odd + odd);
            odd = odd - C * (even + even);
            even = even - B * (odd + odd);
            odd = odd - A * (even + even);
            expect.equalReal("even", real(across, p, 0), even);
            expect.equalReal("odd", real(across, p, 1), odd);
        }
        expect.isTrue("the numbers are such that a division would show", otherDivided > 0);
    }

    private static void realsAtBothEnds(boolean across) {
        for (int first = 0; first < 4; first++) {
            for (int count = 2; count < 10; count++) {
                int[] numbers = new int[count];
                float[] due = new float[count];
                for (int i = 0; i < count; i++) {
                    numbers[i] = (i * 7919 + first * 104729) % 30011 - 15000;
                    due[i] = numbers[i];
                }
                PlaneSplitter p = line(across, first, true, numbers);
                p.split();
                splitReals(due, first);
                isSplitTo(across, p, first, due);
                p.join(1);
                joinReals(due, first);
                for (int i = 0; i < count; i++) {
                    expect.equalReal("joined at " + (first + i), real(across, p, first + i), due[i]);
                }
            }
        }
    }

    private static void isSplitTo(boolean across, PlaneSplitter p, int first, float[] due) {
        for (int i = 0; i < due.length; i++) {
            int place = first + i;
            int band = place % 2 == 0 ? 0 : highBand(across);
            expect.equalReal("place " + place + " of a line", bandReal(across, p, band, place / 2), due[i]);
        }
    }

    private static void splitReals(float[] line, int first) {
        add(line, first, 1, A);
        add(line, first, 0, B);
        add(line, first, 1, C);
        add(line, first, 0, D);
        times(line, first, 1, K);
        times(line, first, 0, L);
    }

    private static void joinReals(float[] line, int first) {
        times(line, first, 0, K);
        times(line, first, 1, L);
        add(line, first, 0, -D);
        add(line, first, 1, -C);
        add(line, first, 0, -B);
        add(line, first, 1, -A);
    }

    private static void add(float[] line, int first, int odd, float factor) {
        for (int i = 0; i < line.length; i++) {
            if ((first + i) % 2 == odd) {
                float a = line[i == 0 ? 1 : i - 1];
                float b = line[i == line.length - 1 ? line.length - 2 : i + 1];
                line[i] = line[i] + factor * (a + b);
            }
        }
    }

    private static void times(float[] line, int first, int odd, float factor) {
        for (int i = 0; i < line.length; i++) {
            if ((first + i) % 2 == odd) {
                line[i] = line[i] * factor;
            }
        }
    }
}
