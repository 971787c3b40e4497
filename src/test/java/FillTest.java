/** Promise 4: fill. */
final class FillTest {
    private static final Expect expect = new Expect();

    public static void main(String[] args) {
        countsFromTheFirstColumnAndRow();
        fromMinus32768To32767();
        modOfANegativeNumber();
        wraps();
        allNumbersAreSet();
        aPlaneWithoutPlaces();
        aFullPlane();
        ofASplitPlane();
        expect.end();
    }

    private static void countsFromTheFirstColumnAndRow() {
        int[][] corners = {{0, 0}, {9, 100}, {1000000, 1000000}};
        for (boolean real : new boolean[] {false, true}) {
            for (int[] a : corners) {
                PlaneSplitter p = new PlaneSplitter();
                p.begin(a[0], a[1], 3, 4, 0, real);
                p.fill(100, 37, 5);
                for (int j = 0; j < 4; j++) {
                    for (int i = 0; i < 3; i++) {
                        int due = 100 * i + 37 * j + 5 * i * j - 32768;
                        expect.equal("fill: " + i + " right, " + j + " below", p.at(a[0] + i, a[1] + j), due);
                        expect.equalReal("fill: " + i + " right, " + j + " below", p.real(a[0] + i, a[1] + j), due);
                    }
                }
            }
        }
        PlaneSplitter q = State.JOINED_TO_LESS.make();
        q.fill(100, 37, 5);
        expect.equal("a resolution has a first column and row of its own", q.at(2, 3), -32768);
        expect.equal("and a last one", q.at(4, 5), -32768 + 200 + 74 + 20);
    }

    private static void fromMinus32768To32767() {
        PlaneSplitter p = new PlaneSplitter();
        p.begin(0, 0, 2, 2, 0, false);
        int[] as = {0, 1, 32767, 32768, 65534, 65535, 65536, 65537, 131071, 131072};
        int[] due = {-32768, -32767, -1, 0, 32766, 32767, -32768, -32767, 32767, -32768};
        for (int k = 0; k < as.length; k++) {
            p.fill(as[k], 0, 0);
            expect.equal("fill: a = " + as[k], p.at(1, 0), due[k]);
            p.fill(0, as[k], 0);
            expect.equal("fill: b = " + as[k], p.at(0, 1), due[k]);
            p.fill(0, 0, as[k]);
            expect.equal("fill: c = " + as[k], p.at(1, 1), due[k]);
            expect.equal("fill: c is without effect there", p.at(1, 0), -32768);
            expect.equal("fill: c is without effect there", p.at(0, 1), -32768);
        }
    }

    private static void modOfANegativeNumber() {
        PlaneSplitter p = new PlaneSplitter();
        p.begin(0, 0, 2, 1, 0, true);
        int[] as = {-1, -2, -32767, -32768, -32769, -65535, -65536, -65537, Integer.MIN_VALUE, Integer.MIN_VALUE + 1};
        int[] due = {32767, 32766, 1, 0, -1, -32767, -32768, 32767, -32768, -32767};
        for (int k = 0; k < as.length; k++) {
            p.fill(as[k], 0, 0);
            expect.equal("fill: a = " + as[k], p.at(1, 0), due[k]);
        }
    }

    /** What has wrapped round has the same last 16 bits as what has not. */
    private static void wraps() {
        int[] sizes = {-1, 1, -70000, Integer.MAX_VALUE, Integer.MIN_VALUE, 123456789, -987654321};
        for (int a : sizes) {
            PlaneSplitter p = new PlaneSplitter();
            p.begin(0, 0, 128, 128, 0, false);
            for (int b : sizes) {
                for (int c : sizes) {
                    p.fill(a, b, c);
                    java.math.BigInteger v = big(a, 127).add(big(b, 126)).add(big(c, 127 * 126));
                    int due = v.mod(java.math.BigInteger.valueOf(65536)).intValue() - 32768;
                    expect.equal("fill(" + a + ", " + b + ", " + c + ")", p.at(127, 126), due);
                }
            }
        }
    }

    private static java.math.BigInteger big(int a, int times) {
        return java.math.BigInteger.valueOf(a).multiply(java.math.BigInteger.valueOf(times));
    }

    private static void allNumbersAreSet() {
        for (State state : new State[] {State.WHOLE_INTS, State.WHOLE_REALS}) {
            PlaneSplitter p = state.make();
            p.set(6, 6, 16777216);
            p.fill(0, 0, 0);
            for (int y = 5; y < 11; y++) {
                for (int x = 3; x < 10; x++) {
                    expect.equal("all are the same at " + x + ", " + y, p.at(x, y), -32768);
                }
            }
        }
    }

    private static void aPlaneWithoutPlaces() {
        expect.allows("fill", State.WHOLE_WITHOUT_PLACES, p -> p.fill(1, 2, 3));
        PlaneSplitter p = State.WHOLE_WITHOUT_PLACES.make();
        p.fill(1, 2, 3);
        expect.isTrue("it has no number then either",
                State.allOf(p).equals(State.allOf(State.WHOLE_WITHOUT_PLACES.make())));
        expect.refusesState("fill", State.SPLIT_WITHOUT_PLACES, q -> q.fill(1, 2, 3));
    }

    private static void aFullPlane() {
        PlaneSplitter p = State.FULL_WHOLE.make();
        p.fill(3, 5, 7);
        expect.equal("the last number", p.at(1001023, 1000015), 3 * 1023 + 5 * 15 + 7 * 1023 * 15 - 65536 - 32768);
        expect.equal("the last of the first row", p.at(1001023, 1000000), 3 * 1023 - 32768);
        expect.equal("the first of the last row", p.at(1000000, 1000015), 5 * 15 - 32768);
    }

    private static void ofASplitPlane() {
        for (State state : State.values()) {
            if (state.name().contains("SPLIT")) {
                expect.refusesState("fill(1, 2, 3)", state, p -> p.fill(1, 2, 3));
                expect.refusesState("fill(0, 0, 0)", state, p -> p.fill(0, 0, 0));
            } else {
                expect.allows("fill(1, 2, 3)", state, p -> p.fill(1, 2, 3));
            }
        }
    }
}
