import java.util.Random;

/** All promises: long runs of calls, the same ones each time, answered as the model answers them. */
public final class ModelTest {
    private static final int RUNS = 3000;
    /** Of the 512 that an object is promised for; the last step may be three calls. */
    private static final int CALLS = 510;
    private static final long[] EDGES = {0, 1, 2, 127, 128, 255, 256, 32767, 32768, 65535, 65536, 2147483647L,
        2147483648L, 4294967295L, 4294967296L, Long.MAX_VALUE, Long.MIN_VALUE};
    private static final int[] ODD = {-1, -2, -3, 32, 33, 40, 64, 300, Integer.MIN_VALUE, Integer.MAX_VALUE};

    private static final int CHANGED = 11;

    private final Due due;
    private final Random random;
    private final KindTable table = new KindTable();
    private final Model model = new Model();
    private final int run;
    /** Runs differ in which calls are common, so that the limits are reached in some of them. */
    private final int[] weights = new int[CHANGED + 1];
    private int weightSum = 0;
    private int calls = 0;

    private ModelTest(Due due, int run) {
        this.due = due;
        this.run = run;
        random = new Random(run);
        for (int i = 0; i < weights.length; i++) {
            weights[i] = 1 + random.nextInt(random.nextInt(4) == 0 ? 40 : 6);
        }
        if (run % 4 == 0) {
            weights[CHANGED] = 1000;
            startWithTypes();
        }
        for (int weight : weights) {
            weightSum += weight;
        }
    }

    public static void main(String[] args) {
        Due due = new Due();
        int full = 0;
        for (int run = 0; run < RUNS && due.allWell(); run++) {
            ModelTest test = new ModelTest(due, run);
            while (test.calls < CALLS) {
                test.call();
            }
            full += test.model.typeCount() == 300 ? 1 : 0;
        }
        System.out.println(full + " runs reach 300 TYPES");
        due.same("some runs reach 300 TYPES", full > 0, true);
        due.end();
    }

    private void call() {
        int left = random.nextInt(weightSum);
        int which = 0;
        while (left >= weights[which]) {
            left -= weights[which];
            which++;
        }
        switch (which) {
            case 0 -> newClass();
            case 1 -> below();
            case 2 -> meet();
            case 3 -> may();
            case 4, 5 -> pass();
            case 6 -> latest();
            case 7 -> put();
            case 8 -> type();
            case 9 -> typeAbout();
            case 10 -> mayBe();
            default -> changed();
        }
    }

    /** Short TYPES with all kinds of PLACES, so that changed() makes new ones nearly each time. */
    private void startWithTypes() {
        for (int k = 1; k < 20; k++) {
            due.same(told("put", k), table.put(k), model.put(k));
            due.same(told("type", k), table.type(k), model.type(k));
        }
    }

    private void newClass() {
        int parent = random.nextInt(3) == 0 ? 7 : anyKind();
        due.same(told("newClass", parent), table.newClass(parent), model.newClass(parent));
    }

    private void below() {
        int a = anyKind();
        int b = anyKind();
        due.same(told("below", a, b), table.below(a, b), model.below(a, b));
    }

    private void meet() {
        int a = anyKind();
        int b = anyKind();
        due.same(told("meet", a, b), table.meet(a, b), model.meet(a, b));
    }

    private void may() {
        int a = anyKind();
        int b = anyKind();
        boolean forced = random.nextBoolean();
        boolean end = random.nextBoolean();
        due.same(told("may", a, b, forced, end), table.may(a, b, forced, end), model.may(a, b, forced, end));
    }

    private void pass() {
        int a = random.nextInt(4) == 0 ? 7 : anyKind();
        int b = anyKind();
        boolean forced = random.nextBoolean();
        int kind = random.nextInt(3) == 0 ? a : anyKind();
        long number = anyNumber();
        due.same(told("pass", a, b, forced, kind, number), table.pass(a, b, forced, kind, number),
                model.pass(a, b, forced, kind, number));
        if (random.nextBoolean()) {
            latest();
        }
    }

    private void latest() {
        due.same(told("kind"), table.kind(), model.kind());
        due.same(told("number"), table.number(), model.number());
    }

    private void put() {
        int kind = random.nextInt(20) == 0 ? anyKind() : 1 + random.nextInt(19);
        due.same(told("put", kind), table.put(kind), model.put(kind));
    }

    private void type() {
        int result = anyKind();
        due.same(told("type", result), table.type(result), model.type(result));
    }

    private void typeAbout() {
        int type = anyType();
        int what = random.nextInt(8) == 0 ? anyOdd() : random.nextInt(14) - 3;
        due.same(told("typeAbout", type, what), table.typeAbout(type, what), model.typeAbout(type, what));
    }

    private void mayBe() {
        int t = anyType();
        int u = random.nextInt(5) == 0 ? t : anyType();
        boolean forced = random.nextBoolean();
        due.same(told("mayBe", t, u, forced), table.mayBe(t, u, forced), model.mayBe(t, u, forced));
    }

    private void changed() {
        int t = anyType();
        int places = Math.max(0, model.typeAbout(t, -2));
        int from = random.nextInt(30) == 0 ? anyOdd() : random.nextInt(places + 1);
        int many = random.nextInt(30) == 0 ? anyOdd() : random.nextInt(2) * random.nextInt(4);
        int u = random.nextInt(4) == 0 ? anyType() : random.nextInt(20);
        due.same(told("changed", t, from, many, u), table.changed(t, from, many, u), model.changed(t, from, many, u));
    }

    private int anyKind() {
        return random.nextInt(25) == 0 ? anyOdd() : random.nextInt(32);
    }

    private int anyType() {
        return random.nextInt(25) == 0 ? anyOdd() : random.nextInt(model.typeCount() + 1);
    }

    private int anyOdd() {
        return ODD[random.nextInt(ODD.length)];
    }

    private long anyNumber() {
        long edge = EDGES[random.nextInt(EDGES.length)];
        switch (random.nextInt(4)) {
            case 0:
                return random.nextInt(2);
            case 1:
                return edge;
            case 2:
                return -edge + random.nextInt(3) - 1;
            default:
                return random.nextLong() >> random.nextInt(64);
        }
    }

    private String told(String name, Object... arguments) {
        calls++;
        return "run " + run + ": " + name + java.util.Arrays.toString(arguments);
    }
}
