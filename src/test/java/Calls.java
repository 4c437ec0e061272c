import java.util.Arrays;

/** Calls on one new object, each with the answer that is due. */
final class Calls {
    /** Kinds that never are: next to the range, far from it, and alike with O in their lowest five bits. */
    static final int[] NEVER_KINDS = {-1, -2, 32, 33, -25, 39, 71, Integer.MIN_VALUE, Integer.MAX_VALUE};
    /** TYPES that never are. */
    static final int[] NEVER_TYPES = {-1, -2, -3, 300, 301, Integer.MIN_VALUE, Integer.MAX_VALUE};
    static final boolean[] BOTH = {false, true};

    /** What an object is promised for. */
    private static final int MOST_CALLS = 512;
    /** How many TYPES withTypes() makes by type(); the others come of changed(). */
    private static final int FIRST_TYPES = 30;

    private final Due due;
    private final KindTable table = new KindTable();
    private int calls = 0;
    private int kindDue = 0;
    private long numberDue = 0;

    /** As many of one kind. */
    static int[] same(int many, int kind) {
        int[] kinds = new int[many];
        Arrays.fill(kinds, kind);
        return kinds;
    }

    Calls(Due due) {
        this.due = due;
    }

    void newClass(int parent, int want) {
        due.same(told("newClass", parent), table.newClass(parent), want);
    }

    /** The first CLASSES of the object, by their PARENTS. */
    Calls withClasses(int... parents) {
        for (int i = 0; i < parents.length; i++) {
            newClass(parents[i], 20 + i);
        }
        return this;
    }

    Calls withAllClasses() {
        return withClasses(same(12, 7));
    }

    void below(int a, int b, boolean want) {
        due.same(told("below", a, b), table.below(a, b), want);
    }

    void meet(int a, int b, int want) {
        due.same(told("meet", a, b), table.meet(a, b), want);
    }

    void may(int a, int b, boolean forced, boolean end, boolean want) {
        due.same(told("may", a, b, forced, end), table.may(a, b, forced, end), want);
    }

    /** A pass() that is 0, and what comes of it. */
    void gives(int a, int b, boolean forced, int kind, long number, int wantKind, long wantNumber) {
        kindDue = wantKind;
        numberDue = wantNumber;
        pass(a, b, forced, kind, number, 0);
    }

    /** A pass() that is an ERROR or refused: what came of the one ahead stays. */
    void stays(int a, int b, boolean forced, int kind, long number, int want) {
        pass(a, b, forced, kind, number, want);
    }

    private void pass(int a, int b, boolean forced, int kind, long number, int want) {
        String call = told("pass", a, b, forced, kind, number);
        due.same(call, table.pass(a, b, forced, kind, number), want);
        latest("after " + call);
    }

    /** What came of the latest pass() that was 0. */
    void latest(String when) {
        kind(when);
        number(when);
    }

    void kind(String when) {
        due.same(told("kind") + " " + when, table.kind(), kindDue);
    }

    void number(String when) {
        due.same(told("number") + " " + when, table.number(), numberDue);
    }

    void put(int kind, boolean want) {
        due.same(told("put", kind), table.put(kind), want);
    }

    void putAll(int... kinds) {
        for (int kind : kinds) {
            put(kind, true);
        }
    }

    void type(int result, int want) {
        due.same(told("type", result), table.type(result), want);
    }

    /** The TYPE with a RESULT and PLACES, from an empty row. */
    void makes(int want, int result, int... places) {
        putAll(places);
        due.same(told("type", result) + " with " + Arrays.toString(places), table.type(result), want);
    }

    void typeAbout(int type, int what, int want) {
        due.same(told("typeAbout", type, what), table.typeAbout(type, what), want);
    }

    /** All about a TYPE. */
    void about(int type, int result, int... places) {
        typeAbout(type, -2, places.length);
        typeAbout(type, -1, result);
        for (int k = 0; k < places.length; k++) {
            typeAbout(type, k, places[k]);
        }
        typeAbout(type, places.length, -1);
    }

    void mayBe(int t, int u, boolean forced, boolean want) {
        due.same(told("mayBe", t, u, forced), table.mayBe(t, u, forced), want);
    }

    void changed(int t, int from, int many, int u, int want) {
        due.same(told("changed", t, from, many, u), table.changed(t, from, many, u), want);
    }

    /** So many TYPES, 30 at least, in 30 calls more: 30 with one PLACE, each other one an older one with Z ahead. */
    Calls withTypes(int count) {
        for (int i = 0; i < FIRST_TYPES; i++) {
            makes(i, i % 20, 1 + i / 20);
        }
        for (int made = FIRST_TYPES; made < count; made++) {
            changed(made - FIRST_TYPES, 0, 0, 0, made);
        }
        return this;
    }

    private String told(String name, Object... arguments) {
        calls++;
        if (calls > MOST_CALLS) {
            due.same("how many calls one object has", calls, MOST_CALLS);
        }
        String all = Arrays.toString(arguments);
        return name + "(" + all.substring(1, all.length() - 1) + ")";
    }
}
