import java.util.Random;

/** All promises: many runs of calls, right and wrong ones, with the naive plane's answers. */
final class ModelTest {
    private static final int RUNS = 1500;
    private static final int CALLS = 120;

    private final Random random;
    private final PlaneSplitter plane = new PlaneSplitter();
    private final NaivePlane naive = new NaivePlane();
    private final StringBuilder told = new StringBuilder();
    private boolean wrong = false;

    private int levels = 0;

    private ModelTest(long seed) {
        random = new Random(seed);
    }

    public static void main(String[] args) {
        int wrong = 0;
        for (int run = 0; run < RUNS && wrong < 3; run++) {
            ModelTest test = new ModelTest(run);
            test.run(run % 50 == 0 ? 16384 : 120);
            if (test.wrong) {
                wrong++;
                System.out.println("run " + run + ":" + test.told);
            }
        }
        System.out.println(RUNS + " runs, " + wrong + " of them not as due");
        if (wrong != 0) {
            System.exit(1);
        }
    }

    private interface Call {
        Object answer();
    }

    private void run(int most) {
        int calls = most > 1000 ? 12 : CALLS;
        begin(most);
        for (int i = 0; i < calls && !wrong; i++) {
            any(most);
        }
    }

    private void any(int most) {
        switch (random.nextInt(most > 1000 ? 9 : 14)) {
            case 0:
                if (random.nextInt(4) == 0) {
                    begin(most);
                }
                break;
            case 1:
                fill();
                break;
            case 2:
            case 3:
                same("split()", () -> done(plane::split), () -> done(naive::split));
                break;
            case 4:
            case 5:
                join();
                break;
            case 6:
            case 7:
                put();
                break;
            case 8:
                readBand();
                break;
            case 9:
                set();
                break;
            case 10:
                read();
                break;
            case 11:
                readBand();
                break;
            case 12:
                put();
                break;
            default:
                edge();
                break;
        }
        same("sum()", plane::sum, naive::sum);
    }

    private void begin(int most) {
        int wide = 1 + random.nextInt(random.nextInt(5) == 0 ? 1024 : 12);
        int high = Math.min(1024, 1 + random.nextInt(Math.max(1, Math.min(20, most / wide))));
        if (wide > most && random.nextInt(10) != 0) {
            wide = 1;
        }
        int left = edgeOfPlane();
        int top = edgeOfPlane();
        int count = random.nextInt(3) == 0 ? random.nextInt(22) : random.nextInt(5);
        if (random.nextInt(20) == 0) {
            high = random.nextInt(2000) - 10;
        }
        boolean real = random.nextBoolean();
        int w = wide;
        int h = high;
        String what = "begin(" + left + ", " + top + ", " + w + ", " + h + ", " + count + ", " + real + ")";
        Object got = same(what, () -> done(() -> plane.begin(left, top, w, h, count, real)),
                () -> done(() -> naive.begin(left, top, w, h, count, real)));
        if (got.equals("done")) {
            levels = count;
        }
    }

    private int edgeOfPlane() {
        switch (random.nextInt(6)) {
            case 0:
                return random.nextInt(1000001);
            case 1:
                return 1000000 + random.nextInt(20) / 19;
            case 2:
                return 1 << random.nextInt(20);
            case 3:
                return 0;
            default:
                return random.nextInt(20);
        }
    }

    private void fill() {
        int a = random.nextInt();
        int b = random.nextInt(1000);
        int c = random.nextInt();
        same("fill(" + a + ", " + b + ", " + c + ")", () -> done(() -> plane.fill(a, b, c)),
                () -> done(() -> naive.fill(a, b, c)));
    }

    private void join() {
        int r = random.nextInt(3) == 0 ? random.nextInt(levels + 3) - 1 : levels;
        same("join(" + r + ")", () -> done(() -> plane.join(r)), () -> done(() -> naive.join(r)));
    }

    private void set() {
        int x = placeOfPlane(0);
        int y = placeOfPlane(1);
        int v = random.nextInt(8) == 0 ? random.nextInt() : random.nextInt(33554433) - 16777216;
        same("set(" + x + ", " + y + ", " + v + ")", () -> done(() -> plane.set(x, y, v)),
                () -> done(() -> naive.set(x, y, v)));
    }

    private void read() {
        int x = placeOfPlane(0);
        int y = placeOfPlane(1);
        same("at(" + x + ", " + y + ")", () -> plane.at(x, y), () -> naive.at(x, y));
        same("real(" + x + ", " + y + ")", () -> plane.real(x, y), () -> naive.real(x, y));
    }

    private void readBand() {
        int level = someLevel();
        int band = someBand(level);
        int x = placeOfBand(level, band, 0);
        int y = placeOfBand(level, band, 1);
        String what = "(" + level + ", " + band + ", " + x + ", " + y + ")";
        same("band" + what, () -> plane.band(level, band, x, y), () -> naive.band(level, band, x, y));
        same("bandReal" + what, () -> plane.bandReal(level, band, x, y), () -> naive.bandReal(level, band, x, y));
    }

    private void put() {
        int level = someLevel();
        int band = someBand(level);
        int x = placeOfBand(level, band, 0);
        int y = placeOfBand(level, band, 1);
        float v = value();
        same("put(" + level + ", " + band + ", " + x + ", " + y + ", " + v + ")",
                () -> done(() -> plane.put(level, band, x, y, v)), () -> done(() -> naive.put(level, band, x, y, v)));
    }

    private void edge() {
        int level = someLevel();
        int band = someBand(level);
        int w = random.nextInt(10) == 0 ? random.nextInt(9) - 3 : random.nextInt(4);
        same("edge(" + level + ", " + band + ", " + w + ")", () -> plane.edge(level, band, w),
                () -> naive.edge(level, band, w));
    }

    private float value() {
        float[] special = {
            Float.NaN, Float.POSITIVE_INFINITY, -16777216f, 16777216f, 16777218f, -16777218f, -0.0f, 1e-42f,
        };
        switch (random.nextInt(4)) {
            case 0:
                return special[random.nextInt(special.length)];
            case 1:
                return (random.nextFloat() - 0.5f) * 33554432f;
            default:
                return (random.nextFloat() - 0.5f) * 2000f;
        }
    }

    private int someLevel() {
        return random.nextInt(12) == 0 ? random.nextInt(30) - 3 : random.nextInt(levels + 1);
    }

    private int someBand(int level) {
        if (random.nextInt(15) == 0) {
            return random.nextInt(9) - 3;
        }
        return level == levels ? random.nextInt(4) : 1 + random.nextInt(3);
    }

    private int placeOfPlane(int down) {
        return near(naive.sideOfPlane(down), naive.sideOfPlane(down + 2));
    }

    private int placeOfBand(int level, int band, int down) {
        try {
            return near(naive.edge(level, band, down), naive.edge(level, band, down + 2));
        } catch (IllegalArgumentException e) {
            return near(0, 1);
        }
    }

    /** One of the places as a rule, now and then one outside. */
    private int near(int first, int many) {
        switch (random.nextInt(25)) {
            case 0:
                return random.nextInt();
            case 1:
                return first + many;
            case 2:
                return first - 1;
            default:
                return first + random.nextInt(Math.max(1, many));
        }
    }

    private static Object done(Runnable call) {
        call.run();
        return "done";
    }

    private Object same(String what, Call asked, Call model) {
        Object got = answerOf(asked);
        Object due = answerOf(model);
        told.append(' ').append(what).append(" = ").append(got).append(';');
        if (!got.equals(due) && !wrong) {
            wrong = true;
            told.append(" due is ").append(due);
        }
        return due;
    }

    private static Object answerOf(Call call) {
        try {
            return call.answer();
        } catch (RuntimeException e) {
            return e.getClass().getName();
        }
    }
}
