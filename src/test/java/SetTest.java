/** Promise 3: set. */
final class SetTest {
    private static final int MIN = Integer.MIN_VALUE;
    private static final int MAX = Integer.MAX_VALUE;
    private static final int LARGEST = 16777216;

    private static final Expect expect = new Expect();

    public static void main(String[] args) {
        theNumberBecomesV();
        theOthersStay();
        noSuchPlace();
        placesAtTheEndsOfTheGrid();
        noPlaceWithoutPlaces();
        vFromLeastToMost();
        ofASplitPlane();
        argumentsBeforeState();
        expect.end();
    }

    private static void theNumberBecomesV() {
        for (State state : new State[] {State.WHOLE_INTS, State.WHOLE_REALS}) {
            for (int[] a : new int[][] {{3, 5}, {9, 5}, {3, 10}, {9, 10}, {6, 7}}) {
                PlaneSplitter p = state.make();
                for (int v : new int[] {1, -1, 0, 65537, -70000, 12345678}) {
                    p.set(a[0], a[1], v);
                    expect.equal("set " + v + " in " + state, p.at(a[0], a[1]), v);
                    expect.equalReal("set " + v + " in " + state, p.real(a[0], a[1]), v);
                }
            }
        }
    }

    private static void theOthersStay() {
        for (State state : new State[] {State.WHOLE_INTS, State.WHOLE_REALS}) {
            PlaneSplitter p = state.make();
            PlaneSplitter q = state.make();
            p.set(6, 7, 123);
            for (int y = 5; y < 11; y++) {
                for (int x = 3; x < 10; x++) {
                    int due = x == 6 && y == 7 ? 123 : q.at(x, y);
                    expect.equal("after set(6, 7, 123) at " + x + ", " + y, p.at(x, y), due);
                }
            }
        }
    }

    private static void noSuchPlace() {
        int[][] beside = {
            {2, 5}, {10, 5}, {3, 4}, {3, 11}, {2, 10}, {10, 10}, {9, 4}, {9, 11}, {0, 0}, {-1, -1}, {-3, 5}, {3, -5},
            {MAX, 5}, {MIN, 5}, {3, MAX}, {3, MIN}, {MIN, MIN}, {MAX, MAX},
        };
        for (State state : new State[] {State.WHOLE_INTS, State.WHOLE_REALS}) {
            for (int[] a : beside) {
                expect.refusesArgument("set(" + a[0] + ", " + a[1] + ", 4)", state, p -> p.set(a[0], a[1], 4));
            }
        }
        // Joined to half its resolution the plane lies at 2, 3 and is 3 wide and 3 high.
        for (int[] a : new int[][] {{2, 3}, {4, 3}, {2, 5}, {4, 5}}) {
            expect.allows("set(" + a[0] + ", " + a[1] + ", 4)", State.JOINED_TO_LESS, p -> p.set(a[0], a[1], 4));
        }
        for (int[] a : new int[][] {{1, 3}, {5, 3}, {2, 2}, {2, 6}, {9, 10}}) {
            expect.refusesArgument("set(" + a[0] + ", " + a[1] + ", 4)", State.JOINED_TO_LESS,
                    p -> p.set(a[0], a[1], 4));
        }
    }

    private static void placesAtTheEndsOfTheGrid() {
        for (int[] a : new int[][] {{1000000, 1000000}, {1001023, 1000000}, {1000000, 1000015}, {1001023, 1000015}}) {
            expect.allows("set(" + a[0] + ", " + a[1] + ", 4)", State.FULL_WHOLE, p -> p.set(a[0], a[1], 4));
        }
        for (int[] a : new int[][] {{999999, 1000000}, {1001024, 1000000}, {1000000, 999999}, {1000000, 1000016}}) {
            expect.refusesArgument("set(" + a[0] + ", " + a[1] + ", 4)", State.FULL_WHOLE, p -> p.set(a[0], a[1], 4));
        }
    }

    private static void noPlaceWithoutPlaces() {
        for (int[] a : new int[][] {{2, 1}, {1, 1}, {3, 1}, {2, 0}, {2, 2}, {5, 4}, {0, 0}}) {
            expect.refusesArgument("set(" + a[0] + ", " + a[1] + ", 4)", State.WHOLE_WITHOUT_PLACES,
                    p -> p.set(a[0], a[1], 4));
        }
    }

    private static void vFromLeastToMost() {
        for (State state : new State[] {State.WHOLE_INTS, State.WHOLE_REALS}) {
            for (int v : new int[] {LARGEST, LARGEST - 1, -LARGEST, -LARGEST + 1}) {
                PlaneSplitter p = state.make();
                p.set(9, 10, v);
                expect.equal("set " + v + " in " + state, p.at(9, 10), v);
            }
            for (int v : new int[] {LARGEST + 1, LARGEST + 2, -LARGEST - 1, -LARGEST - 2, MAX, MIN, MIN + 1}) {
                expect.refusesArgument("set(9, 10, " + v + ")", state, p -> p.set(9, 10, v));
            }
        }
    }

    private static void ofASplitPlane() {
        for (State state : new State[] {State.SPLIT_INTS, State.SPLIT_REALS}) {
            expect.refusesState("set(3, 5, 1)", state, p -> p.set(3, 5, 1));
            expect.refusesState("set(9, 10, " + LARGEST + ")", state, p -> p.set(9, 10, LARGEST));
        }
        expect.refusesState("set(5, 7, 1)", State.SPLIT_WITHOUT_LEVELS, p -> p.set(5, 7, 1));
        expect.refusesState("set(999999, 999999, 1)", State.FULL_SPLIT, p -> p.set(999999, 999999, 1));
    }

    /** The document does not say which comes first; this is the order in which it tells them. */
    private static void argumentsBeforeState() {
        expect.refusesArgument("set(2, 5, 1)", State.SPLIT_INTS, p -> p.set(2, 5, 1));
        expect.refusesArgument("set(3, 5, 16777217)", State.SPLIT_INTS, p -> p.set(3, 5, LARGEST + 1));
        expect.refusesArgument("set(2, 1, 1)", State.SPLIT_WITHOUT_PLACES, p -> p.set(2, 1, 1));
    }
}
