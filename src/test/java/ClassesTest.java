/** Promises 1 to 4: a new object, newClass, below, meet. */
public final class ClassesTest {
    private static final Due DUE = new Due();
    private static final int[] STRANGE = {-1, -2, 32, 33, 40, 64, Integer.MIN_VALUE, Integer.MAX_VALUE};

    public static void main(String[] args) {
        newObject();
        objectsAreApart();
        newClassParents();
        newClassRefuses();
        belowOfFirstKinds();
        belowOfClasses();
        belowAndMeetOfDeepChain();
        belowOfStrangeKinds();
        meetOfFirstKinds();
        meetOfClasses();
        meetOfStrangeKinds();
        DUE.end();
    }

    private static void newObject() {
        KindTable x = new KindTable();
        DUE.same("new: kind()", x.kind(), 0);
        DUE.same("new: number()", x.number(), 0);
        DUE.same("new: below(20, 20)", x.below(20, 20), false);
        DUE.same("new: below(19, 19)", x.below(19, 19), true);
        DUE.same("new: typeAbout(0, -1)", x.typeAbout(0, -1), KindTable.NONE);
        DUE.same("new: typeAbout(0, -2)", x.typeAbout(0, -2), KindTable.NONE);
        DUE.same("new: mayBe(0, 0, true)", x.mayBe(0, 0, true), false);
        DUE.same("new: changed(0, 0, 0, 0)", x.changed(0, 0, 0, 0), KindTable.NONE);
        DUE.same("new: type(0)", x.type(0), 0);
        DUE.same("new: the row is empty", x.typeAbout(0, -2), 0);
        DUE.same("NONE", KindTable.NONE, -1);
    }

    private static void objectsAreApart() {
        KindTable x = new KindTable();
        x.newClass(7);
        x.put(5);
        x.type(5);
        x.put(6);
        x.pass(5, 7, false, 0, 9);
        KindTable y = new KindTable();
        DUE.same("apart: below(20, 7)", y.below(20, 7), false);
        DUE.same("apart: typeAbout(0, -1)", y.typeAbout(0, -1), -1);
        DUE.same("apart: kind()", y.kind(), 0);
        DUE.same("apart: number()", y.number(), 0);
        y.type(0);
        DUE.same("apart: typeAbout(0, -2)", y.typeAbout(0, -2), 0);
        DUE.same("apart: newClass(7)", y.newClass(7), 20);
    }

    private static void newClassParents() {
        for (int parent = -3; parent < 45; parent++) {
            KindTable x = new KindTable();
            x.newClass(7);
            x.newClass(19);
            boolean good = parent == 7 || parent == 19 || parent == 20 || parent == 21;
            DUE.same("newClass(" + parent + ")", x.newClass(parent), good ? 22 : -1);
            DUE.same("newClass after " + parent, x.newClass(7), good ? 23 : 22);
        }
    }

    private static void newClassRefuses() {
        KindTable x = new KindTable();
        DUE.same("newClass(20) as the first", x.newClass(20), -1);
        for (int parent : STRANGE) {
            DUE.same("newClass(" + parent + ")", x.newClass(parent), -1);
        }
        for (int i = 0; i < 12; i++) {
            DUE.same("newClass number " + i, x.newClass(i % 2 == 0 ? 7 : 19), 20 + i);
        }
        for (int parent : new int[] {7, 19, 20, 31, 32, 8}) {
            DUE.same("thirteenth newClass(" + parent + ")", x.newClass(parent), -1);
        }
        DUE.same("below(31, 19)", x.below(31, 19), true);
        DUE.same("below(32, 32)", x.below(32, 32), false);
    }

    private static void belowOfFirstKinds() {
        KindTable x = new KindTable();
        for (int a = 0; a < 20; a++) {
            for (int b = 0; b < 20; b++) {
                boolean number = a == 10 || a == 11 || a == 13 || a == 14;
                boolean want = a == b || a >= 7 && b == 7 || number && b == 8;
                DUE.same("below(" + a + ", " + b + ")", x.below(a, b), want);
            }
        }
    }

    private static void belowOfClasses() {
        KindTable x = family();
        String[] aboves = {"20 7", "21 20 7", "22 19 7", "23 21 20 7", "24 22 19 7", "25 20 7"};
        for (int a = 20; a < 26; a++) {
            for (int b = 0; b < 32; b++) {
                boolean want = (" " + aboves[a - 20] + " ").contains(" " + b + " ");
                DUE.same("family: below(" + a + ", " + b + ")", x.below(a, b), want);
            }
        }
        for (int a = 0; a < 20; a++) {
            for (int b = 20; b < 32; b++) {
                DUE.same("family: below(" + a + ", " + b + ")", x.below(a, b), false);
            }
        }
    }

    private static void belowAndMeetOfDeepChain() {
        for (int a = 20; a < 32; a++) {
            KindTable x = chain();
            for (int b = 7; b < 32; b++) {
                boolean want = b == 7 || b >= 19 && b <= a;
                DUE.same("chain: below(" + a + ", " + b + ")", x.below(a, b), want);
                int least = b >= 19 ? Math.min(a, b) : 7;
                DUE.same("chain: meet(" + a + ", " + b + ")", x.meet(a, b), least);
            }
        }
    }

    /** 20 under E, and each other CLASS under the one ahead of it. */
    private static KindTable chain() {
        KindTable x = new KindTable();
        x.newClass(19);
        for (int k = 21; k < 32; k++) {
            DUE.same("chain: newClass(" + (k - 1) + ")", x.newClass(k - 1), k);
        }
        return x;
    }

    private static void belowOfStrangeKinds() {
        KindTable x = family();
        for (int k : STRANGE) {
            DUE.same("below(" + k + ", 7)", x.below(k, 7), false);
            DUE.same("below(9, " + k + ")", x.below(9, k), false);
            DUE.same("below(" + k + ", " + k + ")", x.below(k, k), false);
        }
        DUE.same("below(26, 7)", x.below(26, 7), false);
        DUE.same("below(26, 26)", x.below(26, 26), false);
    }

    private static void meetOfFirstKinds() {
        for (int classes = 0; classes <= 12; classes++) {
            KindTable x = new KindTable();
            for (int i = 0; i < classes; i++) {
                x.newClass(19);
            }
            meetOfFirstKinds(x);
        }
    }

    private static void meetOfFirstKinds(KindTable x) {
        for (int a = 0; a < 20; a++) {
            for (int b = 0; b < 20; b++) {
                boolean numbers = isNumber(a) && isNumber(b);
                int apart = a >= 7 && b >= 7 ? numbers ? 8 : 7 : -1;
                DUE.same("meet(" + a + ", " + b + ")", x.meet(a, b), a == b ? a : apart);
            }
        }
    }

    private static boolean isNumber(int k) {
        return k == 8 || k == 10 || k == 11 || k == 13 || k == 14;
    }

    private static void meetOfClasses() {
        KindTable x = family();
        int[][] rows = {
            {20, 20, 20}, {21, 20, 20}, {23, 21, 21}, {23, 25, 20}, {21, 25, 20}, {22, 24, 22}, {24, 19, 19},
            {22, 19, 19}, {22, 21, 7}, {24, 23, 7}, {20, 19, 7}, {20, 7, 7}, {20, 8, 7}, {20, 10, 7}, {24, 18, 7},
            {20, 5, -1}, {20, 0, -1}, {24, 24, 24}};
        for (int[] r : rows) {
            DUE.same("family: meet(" + r[0] + ", " + r[1] + ")", x.meet(r[0], r[1]), r[2]);
            DUE.same("family: meet(" + r[1] + ", " + r[0] + ")", x.meet(r[1], r[0]), r[2]);
        }
    }

    private static void meetOfStrangeKinds() {
        KindTable x = family();
        for (int k : STRANGE) {
            DUE.same("meet(" + k + ", 7)", x.meet(k, 7), -1);
            DUE.same("meet(7, " + k + ")", x.meet(7, k), -1);
            DUE.same("meet(" + k + ", " + k + ")", x.meet(k, k), -1);
        }
        DUE.same("meet(26, 26)", x.meet(26, 26), -1);
        DUE.same("meet(20, 26)", x.meet(20, 26), -1);
    }

    /** 20 under O, 21 under 20, 22 under E, 23 under 21, 24 under 22, 25 under 20. */
    private static KindTable family() {
        KindTable x = new KindTable();
        for (int parent : new int[] {7, 20, 19, 21, 22, 20}) {
            x.newClass(parent);
        }
        return x;
    }
}
