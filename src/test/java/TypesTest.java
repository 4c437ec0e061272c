/** Promises 9 to 13: put, type, typeAbout, mayBe, changed. */
public final class TypesTest {
    private static final Due DUE = new Due();
    private static final int[] STRANGE = {-1, -2, -3, 300, 301, Integer.MIN_VALUE, Integer.MAX_VALUE};

    public static void main(String[] args) {
        putUpToTwenty();
        putTakesAnyKind();
        typeEmptiesTheRow();
        typeRefuses();
        placeMayComeBeforeItsClass();
        equalTypesAreOne();
        typesThatDifferAreApart();
        typeAboutAll();
        typeAboutNone();
        mayBeByPlaces();
        mayBeByResults();
        mayBeOfNoTypes();
        changedPlaces();
        changedRefuses();
        changedLeavesTheRow();
        changedUpToTen();
        threeHundredTypes();
        DUE.end();
    }

    private static void putUpToTwenty() {
        KindTable x = new KindTable();
        for (int round = 0; round < 2; round++) {
            for (int i = 0; i < 20; i++) {
                DUE.same("put number " + i, x.put(5), true);
            }
            DUE.same("put number 20", x.put(5), false);
            DUE.same("put number 21", x.put(40), false);
            DUE.same("type of twenty", x.type(5), -1);
        }
        DUE.same("type after twenty", x.type(5), 0);
        DUE.same("places after twenty", x.typeAbout(0, -2), 0);
    }

    private static void putTakesAnyKind() {
        for (int kind : new int[] {-1, 0, 20, 31, 32, Integer.MIN_VALUE, Integer.MAX_VALUE}) {
            KindTable x = new KindTable();
            DUE.same("put(" + kind + ")", x.put(kind), true);
            DUE.same("type with " + kind, x.type(5), -1);
            DUE.same("type after " + kind, x.type(5), 0);
        }
    }

    private static void typeEmptiesTheRow() {
        KindTable x = new KindTable();
        makes(x, 0, 5, 5, 6);
        makes(x, 1, 5);
        DUE.same("empty: typeAbout(1, -2)", x.typeAbout(1, -2), 0);
        makes(x, -1, 40, 5, 6);
        makes(x, 1, 5);
        makes(x, -1, 5, 0);
        makes(x, 1, 5);
        makes(x, 2, 5, 6);
        DUE.same("empty: typeAbout(2, 0)", x.typeAbout(2, 0), 6);
    }

    private static void typeRefuses() {
        KindTable x = new KindTable();
        for (int result : new int[] {-1, 20, 31, 32, 33, 64, Integer.MIN_VALUE, Integer.MAX_VALUE}) {
            makes(x, -1, result);
            makes(x, -1, 5, result);
            makes(x, -1, 5, 1, 2, 3, result, 4);
        }
        makes(x, -1, 5, 0);
        makes(x, -1, 0, 5, 0);
        makes(x, -1, 5, 1, 2, 3, 4, 5, 6, 7, 8, 9, 10, 11);
        makes(x, 0, 5, 1, 2, 3, 4, 5, 6, 7, 8, 9, 10);
        makes(x, 1, 0);
        makes(x, -1, 5, 1, 2, 3, 4, 5, 6, 7, 8, 9, 0);
        x.newClass(7);
        makes(x, 2, 20, 20);
        makes(x, -1, 21, 20);
    }

    private static void placeMayComeBeforeItsClass() {
        KindTable x = new KindTable();
        x.put(20);
        x.newClass(7);
        DUE.same("type(20) of 20", x.type(20), 0);
        DUE.same("typeAbout(0, 0)", x.typeAbout(0, 0), 20);
    }

    private static void equalTypesAreOne() {
        KindTable x = new KindTable();
        makes(x, 0, 5, 6, 7);
        makes(x, 1, 5, 7, 6);
        makes(x, 2, 6, 6, 7);
        makes(x, 0, 5, 6, 7);
        makes(x, 1, 5, 7, 6);
        makes(x, 3, 5, 6);
        makes(x, 4, 5, 6, 7, 7);
        makes(x, 2, 6, 6, 7);
        makes(x, 4, 5, 6, 7, 7);
        makes(x, 5, 0);
        makes(x, 5, 0);
    }

    private static void typesThatDifferAreApart() {
        KindTable x = tableOfAllClasses();
        for (int place = 0; place < 10; place++) {
            int[] kinds = new int[11];
            java.util.Arrays.fill(kinds, 31);
            kinds[place + 1] = 30;
            int number = putAll(x, kinds);
            DUE.same("apart in place " + place, number, place);
            for (int k = 0; k < 10; k++) {
                DUE.same("apart: typeAbout", x.typeAbout(number, k), k == place ? 30 : 31);
            }
            DUE.same("apart: result", x.typeAbout(number, -1), 31);
        }
    }

    private static void typeAboutAll() {
        KindTable x = tableOfAllClasses();
        int[] kinds = {31, 1, 6, 7, 8, 14, 17, 19, 20, 30, 31};
        DUE.same("type of ten", putAll(x, kinds), 0);
        about(x, 0, kinds);
        makes(x, 1, 0);
        about(x, 1, 0);
        makes(x, 2, 0, 31);
        about(x, 2, 0, 31);
        about(x, 0, kinds);
    }

    private static void typeAboutNone() {
        KindTable x = new KindTable();
        makes(x, 0, 5, 6, 7);
        for (int what : new int[] {2, 3, 10, 31, -3, -4, Integer.MIN_VALUE, Integer.MAX_VALUE}) {
            DUE.same("typeAbout(0, " + what + ")", x.typeAbout(0, what), -1);
        }
        for (int type : STRANGE) {
            for (int what : new int[] {-2, -1, 0}) {
                DUE.same("typeAbout(" + type + ", " + what + ")", x.typeAbout(type, what), -1);
            }
        }
        DUE.same("typeAbout(1, -1)", x.typeAbout(1, -1), -1);
    }

    private static void mayBeByPlaces() {
        KindTable x = new KindTable();
        makes(x, 0, 0, 6, 7);
        makes(x, 1, 0, 2, 13);
        makes(x, 2, 0, 6);
        makes(x, 3, 0, 4, 13);
        makes(x, 4, 0, 1, 18);
        // u's PLACES are passed as t's: B as J, the BOX of I as O.
        taken(x, 0, 1, true, true);
        taken(x, 1, 0, false, true);
        taken(x, 0, 2, false, false);
        taken(x, 2, 0, false, false);
        taken(x, 1, 3, false, true);
        taken(x, 0, 3, true, true);
        taken(x, 0, 4, false, true);
        for (int t = 0; t < 5; t++) {
            taken(x, t, t, true, true);
        }
        makes(x, 5, 0, 18);
        makes(x, 6, 0, 5);
        taken(x, 5, 6, false, false);
        taken(x, 6, 5, false, false);
        // Only the last PLACE is in the way.
        makes(x, 7, 0, 5, 5, 5);
        makes(x, 8, 0, 5, 5, 6);
        taken(x, 7, 8, false, true);
        taken(x, 8, 7, true, true);
    }

    private static void mayBeByResults() {
        KindTable x = new KindTable();
        int[] results = {0, 2, 5, 7, 18, 12};
        for (int i = 0; i < results.length; i++) {
            makes(x, i, results[i]);
        }
        // t's RESULT is passed as u's.
        taken(x, 1, 2, true, true);
        taken(x, 2, 1, false, true);
        for (int i = 0; i < results.length; i++) {
            taken(x, 0, i, true, true);
            taken(x, i, 0, true, true);
        }
        taken(x, 2, 3, true, true);
        taken(x, 3, 2, true, true);
        taken(x, 4, 2, false, false);
        taken(x, 2, 4, false, false);
        taken(x, 5, 1, false, true);
        taken(x, 5, 2, true, true);
    }

    private static void mayBeOfNoTypes() {
        KindTable x = new KindTable();
        makes(x, 0, 5);
        for (int type : STRANGE) {
            taken(x, type, 0, false, false);
            taken(x, 0, type, false, false);
            taken(x, type, type, false, false);
        }
        taken(x, 0, 1, false, false);
        taken(x, 1, 0, false, false);
        taken(x, 1, 1, false, false);
    }

    private static void changedPlaces() {
        KindTable x = new KindTable();
        makes(x, 0, 5, 1, 2, 3);
        makes(x, 1, 6, 18, 19);
        makes(x, 2, 0);
        changes(x, 0, 0, 0, 1, 3, 5, 18, 19, 1, 2, 3);
        changes(x, 0, 1, 0, 1, 4, 5, 1, 18, 19, 2, 3);
        changes(x, 0, 3, 0, 1, 5, 5, 1, 2, 3, 18, 19);
        changes(x, 0, 0, 1, 1, 6, 5, 18, 19, 2, 3);
        changes(x, 0, 1, 1, 1, 7, 5, 1, 18, 19, 3);
        changes(x, 0, 2, 1, 1, 8, 5, 1, 2, 18, 19);
        changes(x, 0, 0, 3, 1, 9, 5, 18, 19);
        changes(x, 0, 1, 2, 1, 10, 5, 1, 18, 19);
        changes(x, 0, 0, 3, 2, 11, 5);
        changes(x, 0, 1, 1, 2, 12, 5, 1, 3);
        changes(x, 0, 0, 0, 2, 0, 5, 1, 2, 3);
        changes(x, 0, 0, 3, 0, 0, 5, 1, 2, 3);
        changes(x, 0, 1, 1, 0, 13, 5, 1, 1, 2, 3, 3);
        changes(x, 2, 0, 0, 1, 14, 0, 18, 19);
        changes(x, 2, 0, 0, 2, 2, 0);
        changes(x, 0, 1, 1, 1, 7, 5, 1, 18, 19, 3);
        about(x, 0, 5, 1, 2, 3);
        about(x, 1, 6, 18, 19);
        makes(x, 15, 5, 9);
    }

    private static void changedRefuses() {
        KindTable x = new KindTable();
        makes(x, 0, 5, 1, 2, 3);
        makes(x, 1, 6);
        int[][] rows = {
            {-1, 0}, {0, -1}, {4, 0}, {3, 1}, {2, 2}, {1, 3}, {0, 4}, {4, -1}, {-1, 1}, {5, -2}, {10, 0}, {11, 0},
            {Integer.MAX_VALUE, 0}, {Integer.MAX_VALUE, 1}, {Integer.MAX_VALUE, Integer.MAX_VALUE},
            {1, Integer.MAX_VALUE}, {0, Integer.MAX_VALUE}, {0, Integer.MIN_VALUE}, {Integer.MIN_VALUE, 0},
            {Integer.MIN_VALUE, Integer.MIN_VALUE}, {Integer.MIN_VALUE, Integer.MAX_VALUE},
            {Integer.MAX_VALUE, Integer.MIN_VALUE}, {3, Integer.MIN_VALUE}, {-1, Integer.MIN_VALUE}};
        for (int[] r : rows) {
            DUE.same("changed(0, " + r[0] + ", " + r[1] + ", 1)", x.changed(0, r[0], r[1], 1), -1);
            DUE.same("changed(1, " + r[0] + ", " + r[1] + ", 0)", x.changed(1, r[0], r[1], 0), -1);
        }
        for (int type : STRANGE) {
            DUE.same("changed(" + type + ", 0, 0, 0)", x.changed(type, 0, 0, 0), -1);
            DUE.same("changed(0, 0, 0, " + type + ")", x.changed(0, 0, 0, type), -1);
        }
        DUE.same("changed(2, 0, 0, 0)", x.changed(2, 0, 0, 0), -1);
        DUE.same("changed(0, 0, 0, 2)", x.changed(0, 0, 0, 2), -1);
        makes(x, 2, 0);
    }

    private static void changedLeavesTheRow() {
        KindTable x = new KindTable();
        makes(x, 0, 5, 1, 2, 3);
        x.put(18);
        x.put(19);
        DUE.same("changed(0, 0, 1, 0)", x.changed(0, 0, 1, 0), 1);
        DUE.same("changed(0, 9, 1, 0)", x.changed(0, 9, 1, 0), -1);
        DUE.same("type after changed", x.type(6), 2);
        about(x, 2, 6, 18, 19);
    }

    private static void changedUpToTen() {
        KindTable x = tableOfAllClasses();
        makes(x, 0, 31, 21, 22, 23, 24, 25, 26);
        makes(x, 1, 30, 27, 28, 29, 30);
        changes(x, 0, 6, 0, 1, 2, 31, 21, 22, 23, 24, 25, 26, 27, 28, 29, 30);
        changes(x, 0, 0, 0, 1, 3, 31, 27, 28, 29, 30, 21, 22, 23, 24, 25, 26);
        DUE.same("eleven by one more", x.changed(2, 0, 3, 1), -1);
        DUE.same("twelve", x.changed(0, 0, 0, 0), -1);
        DUE.same("sixteen", x.changed(2, 10, 0, 0), -1);
        changes(x, 2, 6, 4, 1, 2, 31, 21, 22, 23, 24, 25, 26, 27, 28, 29, 30);
        changes(x, 2, 0, 10, 2, 2, 31, 21, 22, 23, 24, 25, 26, 27, 28, 29, 30);
        DUE.same("twenty", x.changed(2, 0, 0, 2), -1);
        makes(x, 4, 0);
    }

    private static void threeHundredTypes() {
        KindTable x = new KindTable();
        for (int i = 0; i < 30; i++) {
            makes(x, i, i % 20, 1 + i / 20);
        }
        // Each of the thirty is made longer, a PLACE at a time, up to ten PLACES: 300 in all.
        for (int t = 0; t < 270; t++) {
            DUE.same("changed(" + t + ", 0, 0, 0)", x.changed(t, 0, 0, 0), 30 + t);
        }
        about(x, 299, 9, 1, 1, 1, 1, 1, 1, 1, 1, 1, 2);
        DUE.same("none beyond it", x.typeAbout(300, -2), -1);
        makes(x, -1, 10, 2);
        makes(x, -1, 5);
        makes(x, 5, 5, 1);
        makes(x, 299, 9, 1, 1, 1, 1, 1, 1, 1, 1, 1, 2);
        DUE.same("changed to a new one", x.changed(29, 1, 0, 0), -1);
        DUE.same("changed to an old one", x.changed(5, 0, 0, 0), 35);
        DUE.same("changed to the same", x.changed(299, 0, 10, 299), 299);
        DUE.same("still none beyond it", x.typeAbout(300, -1), -1);
        taken(x, 300, 300, false, false);
        taken(x, 299, 299, true, true);
    }

    private static KindTable tableOfAllClasses() {
        KindTable x = new KindTable();
        for (int i = 0; i < 12; i++) {
            x.newClass(7);
        }
        return x;
    }

    /** The first kind is the RESULT, the others are the PLACES. */
    private static int putAll(KindTable x, int... kinds) {
        for (int i = 1; i < kinds.length; i++) {
            DUE.same("put(" + kinds[i] + ")", x.put(kinds[i]), true);
        }
        return x.type(kinds[0]);
    }

    private static void makes(KindTable x, int want, int... kinds) {
        DUE.same("type of " + java.util.Arrays.toString(kinds), putAll(x, kinds), want);
    }

    private static void about(KindTable x, int type, int... kinds) {
        String call = "typeAbout(" + type + ", ";
        DUE.same(call + "-2)", x.typeAbout(type, -2), kinds.length - 1);
        for (int i = 0; i < kinds.length; i++) {
            DUE.same(call + (i - 1) + ")", x.typeAbout(type, i - 1), kinds[i]);
        }
        DUE.same(call + "beyond)", x.typeAbout(type, kinds.length - 1), -1);
    }

    private static void taken(KindTable x, int t, int u, boolean plainly, boolean forced) {
        DUE.same("mayBe(" + t + ", " + u + ", false)", x.mayBe(t, u, false), plainly);
        DUE.same("mayBe(" + t + ", " + u + ", true)", x.mayBe(t, u, true), forced);
    }

    private static void changes(KindTable x, int t, int from, int many, int u, int want, int... kinds) {
        DUE.same("changed(" + t + ", " + from + ", " + many + ", " + u + ")", x.changed(t, from, many, u), want);
        about(x, want, kinds);
    }
}
