/** Promise 13: the sum of all numbers, as they lie. */
final class SumTest {
    private static final Expect expect = new Expect();

    public static void main(String[] args) {
        rowByRow();
        bandByBand();
        ofReals();
        expect.end();
    }

    private static int chain(int... numbers) {
        int sum = 0;
        for (int n : numbers) {
            sum = sum * 31 + n;
        }
        return sum;
    }

    private static void rowByRow() {
        PlaneSplitter p = new PlaneSplitter();
        p.begin(3, 4, 2, 2, 1, false);
        p.set(3, 4, 1);
        p.set(4, 4, 2);
        p.set(3, 5, 3);
        p.set(4, 5, -4);
        expect.equal("whole", p.sum(), chain(1, 2, 3, -4));
        p.begin(0, 0, 3, 3, 0, false);
        p.fill(1, 3, 0);
        expect.equal("wrapping", p.sum(),
                chain(-32768, -32767, -32766, -32765, -32764, -32763, -32762, -32761, -32760));
    }

    private static void bandByBand() {
        PlaneSplitter p = new PlaneSplitter();
        p.begin(0, 0, 4, 4, 2, false);
        p.split();
        int next = 1;
        int[] due = new int[16];
        int[][] order = {{2, 0}, {2, 1}, {2, 2}, {2, 3}, {1, 1}, {1, 2}, {1, 3}};
        for (int[] b : order) {
            for (int y = 0; y < p.edge(b[0], b[1], 3); y++) {
                for (int x = 0; x < p.edge(b[0], b[1], 2); x++) {
                    p.put(b[0], b[1], x, y, 100 * next);
                    due[next - 1] = 100 * next;
                    next++;
                }
            }
        }
        expect.equal("all numbers", next, 17);
        expect.equal("split", p.sum(), chain(due));
    }

    private static void ofReals() {
        PlaneSplitter p = new PlaneSplitter();
        p.begin(0, 0, 2, 1, 0, true);
        p.split();
        p.put(0, 0, 0, 0, 1.3f);
        p.put(0, 0, 1, 0, -1.3f);
        expect.equal("eight times, without its fraction", p.sum(), chain(10, -10));
        p.put(0, 0, 0, 0, 1.2f);
        expect.equal("the fraction is dropped, not rounded", p.sum(), chain(9, -10));
        p.put(0, 0, 0, 0, 16777216f);
        expect.equal("large ones", p.sum(), chain(134217728, -10));
        p.join(0);
        expect.equal("whole", p.sum(), chain(134217728, -10));
    }
}
