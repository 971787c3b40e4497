/** Promise 1: a new object. */
final class NewObjectTest {
    private static final Expect expect = new Expect();

    public static void main(String[] args) {
        atNoughtOneWideAndOneHigh();
        itsNumberIsNought();
        withoutLevels();
        itIsWhole();
        itIsOfInts();
        everyObjectIsItsOwn();
        expect.end();
    }

    private static void atNoughtOneWideAndOneHigh() {
        PlaneSplitter p = new PlaneSplitter();
        int[] due = {0, 0, 1, 1};
        for (int w = 0; w < 4; w++) {
            expect.equal("new: edge " + w, p.edge(0, 0, w), due[w]);
        }
        int[][] beside = {{-1, 0}, {1, 0}, {0, -1}, {0, 1}, {1, 1}, {-1, -1}};
        for (int[] a : beside) {
            expect.refusesArgument("at(" + a[0] + ", " + a[1] + ")", State.NEW, q -> q.at(a[0], a[1]));
            expect.refusesArgument("set(" + a[0] + ", " + a[1] + ", 0)", State.NEW, q -> q.set(a[0], a[1], 0));
        }
    }

    private static void itsNumberIsNought() {
        PlaneSplitter p = new PlaneSplitter();
        expect.equal("new: at(0, 0)", p.at(0, 0), 0);
        expect.equalReal("new: real(0, 0)", p.real(0, 0), 0.0f);
        expect.equal("new: sum()", p.sum(), 0);
    }

    private static void withoutLevels() {
        for (int band = 0; band < 4; band++) {
            int b = band;
            expect.refusesArgument("level 1, band " + b, State.NEW, p -> p.edge(1, b, 0));
        }
        for (int band = 1; band < 4; band++) {
            int b = band;
            expect.refusesArgument("level 0, band " + b, State.NEW, p -> p.edge(0, b, 0));
        }
        PlaneSplitter p = new PlaneSplitter();
        p.set(0, 0, 5);
        p.split();
        expect.equal("band 0 of level 0 is the plane", p.band(0, 0, 0, 0), 5);
        p.join(0);
        expect.equal("and joined it is the same", p.at(0, 0), 5);
        expect.refusesArgument("join(1)", State.NEW, q -> q.join(1));
    }

    private static void itIsWhole() {
        expect.refusesState("join(0)", State.NEW, p -> p.join(0));
        expect.refusesState("band", State.NEW, p -> p.band(0, 0, 0, 0));
        expect.refusesState("bandReal", State.NEW, p -> p.bandReal(0, 0, 0, 0));
        expect.refusesState("put", State.NEW, p -> p.put(0, 0, 0, 0, 1f));
        expect.allows("set", State.NEW, p -> p.set(0, 0, 1));
        expect.allows("fill", State.NEW, p -> p.fill(1, 2, 3));
        expect.allows("split", State.NEW, p -> p.split());
    }

    private static void itIsOfInts() {
        PlaneSplitter p = new PlaneSplitter();
        p.set(0, 0, 3);
        expect.equal("its sum is not that of a real", p.sum(), 3);
        p.split();
        p.put(0, 0, 0, 0, 2.9f);
        expect.equalReal("it keeps no fraction", p.bandReal(0, 0, 0, 0), 2.0f);
    }

    private static void everyObjectIsItsOwn() {
        PlaneSplitter p = new PlaneSplitter();
        PlaneSplitter q = new PlaneSplitter();
        p.set(0, 0, 7);
        q.begin(4, 4, 2, 2, 1, true);
        q.fill(1, 2, 3);
        q.split();
        expect.equal("one object's number", p.at(0, 0), 7);
        expect.equal("a third one's number", new PlaneSplitter().at(0, 0), 0);
    }
}
