/** Terms 1 about kinds, and promises 1 to 4: a new object, newClass, below, meet. */
public final class ClassesTest {
    private static final Due DUE = new Due();

    public static void main(String[] args) {
        classesAsTold();
        parentsToldAhead();
        belowItself();
        belowO();
        belowN();
        belowParentAndBeyond();
        newObjectHasNoClasses();
        newObjectHasNoTypes();
        newObjectHasAnEmptyRow();
        newObjectHasPassedNothing();
        objectsAreApart();
        newClassOfTwelve();
        newClassOfNoParent();
        belowOfFirstKinds();
        belowOfFamily();
        belowOfNoSuchKinds();
        meetOfFirstKinds();
        meetOfFamily();
        meetOfChain();
        meetThatIsNone();
        meetOfNoSuchKinds();
        DUE.end();
    }

    private static void classesAsTold() {
        DUE.sentence("Terms 1", "20 to 31 CLASSES, as they are told");
        Calls x = new Calls(DUE);
        for (int kinds = 20; kinds <= 32; kinds++) {
            for (int k = 19; k <= 33; k++) {
                x.below(k, k, k < kinds);
            }
            if (kinds < 32) {
                x.newClass(7, kinds);
            }
        }
    }

    private static void parentsToldAhead() {
        DUE.sentence("Terms 1", "each with a PARENT: O, E or a CLASS told ahead");
        Calls x = new Calls(DUE);
        for (int next = 20; next < 32; next++) {
            x.newClass(next, -1);
            x.newClass(next + 1, -1);
            x.newClass(31, -1);
            x.newClass(next == 20 ? 7 : next - 1, next);
        }
        for (int parent : new int[] {7, 19}) {
            new Calls(DUE).newClass(parent, 20);
        }
    }

    private static void belowItself() {
        DUE.sentence("Terms 1", "A kind is BELOW itself");
        Calls x = new Calls(DUE).withAllClasses();
        for (int k = 0; k < 32; k++) {
            x.below(k, k, true);
            x.meet(k, k, k);
        }
    }

    private static void belowO() {
        DUE.sentence("Terms 1", "REFERENCES are BELOW O");
        Calls x = chain();
        for (int k = 0; k < 32; k++) {
            x.below(k, 7, k >= 7);
            x.below(7, k, k == 7);
        }
    }

    private static void belowN() {
        DUE.sentence("Terms 1", "the BOXES of B, S, I, J are BELOW N");
        Calls x = chain();
        for (int k = 0; k < 32; k++) {
            x.below(k, 8, isNumber(k));
            x.below(8, k, k == 7 || k == 8);
        }
    }

    private static void belowParentAndBeyond() {
        DUE.sentence("Terms 1", "a CLASS is BELOW its PARENT and all that this is BELOW");
        Calls x = chain();
        for (int a = 20; a < 32; a++) {
            for (int b = 0; b < 32; b++) {
                x.below(a, b, b == 7 || b >= 19 && b <= a);
            }
        }
    }

    private static void newObjectHasNoClasses() {
        DUE.sentence("Promise 1", "No CLASSES");
        Calls x = new Calls(DUE);
        for (int k = 20; k < 32; k++) {
            x.below(k, 7, false);
            x.below(k, k, false);
        }
        x.newClass(20, -1);
        x.newClass(7, 20);
    }

    private static void newObjectHasNoTypes() {
        DUE.sentence("Promise 1", "no TYPES");
        Calls x = new Calls(DUE);
        x.typeAbout(0, -1, -1);
        x.typeAbout(0, -2, -1);
        x.typeAbout(0, 0, -1);
        x.mayBe(0, 0, true, false);
        x.changed(0, 0, 0, 0, -1);
        x.type(5, 0);
    }

    private static void newObjectHasAnEmptyRow() {
        DUE.sentence("Promise 1", "the row is empty");
        Calls x = new Calls(DUE);
        x.type(0, 0);
        x.typeAbout(0, -2, 0);
        Calls y = new Calls(DUE);
        for (int i = 0; i < 20; i++) {
            y.put(5, true);
        }
        y.put(5, false);
    }

    private static void newObjectHasPassedNothing() {
        DUE.sentence("Promise 1", "nothing was passed");
        new Calls(DUE).latest("of a new object");
    }

    private static void objectsAreApart() {
        DUE.sentence("Promise 1", "A new object");
        Calls x = new Calls(DUE);
        x.newClass(7, 20);
        x.makes(0, 5, 5);
        x.put(6, true);
        x.gives(5, 7, false, 0, 9, 13, 9);
        Calls y = new Calls(DUE);
        y.latest("of another object");
        y.below(20, 7, false);
        y.typeAbout(0, -1, -1);
        y.type(0, 0);
        y.about(0, 0);
        y.newClass(19, 20);
        x.below(20, 19, false);
        x.about(0, 5, 5);
    }

    private static void newClassOfTwelve() {
        DUE.sentence("Promise 2", "NONE, refused, when there are 12");
        Calls x = chain();
        for (int parent : new int[] {7, 19, 20, 31, 32, 8, 7}) {
            x.newClass(parent, -1);
        }
        x.below(32, 32, false);
        x.below(32, 7, false);
        for (int b = 7; b < 32; b++) {
            x.below(31, b, b == 7 || b >= 19);
            x.below(20, b, b == 7 || b == 19 || b == 20);
        }
    }

    private static void newClassOfNoParent() {
        DUE.sentence("Promise 2", "or parent is none of O, E, a CLASS");
        for (int parent = -3; parent < 45; parent++) {
            newClassUnder(parent, parent == 7 || parent >= 19 && parent <= 21);
        }
        for (int parent : Calls.NEVER_KINDS) {
            newClassUnder(parent, false);
        }
    }

    /** As the third CLASS; where it is refused, its number is left for the next one. */
    private static void newClassUnder(int parent, boolean good) {
        Calls x = new Calls(DUE).withClasses(7, 19);
        x.newClass(parent, good ? 22 : -1);
        x.below(22, 22, good);
        x.newClass(7, good ? 23 : 22);
    }

    private static void belowOfFirstKinds() {
        DUE.sentence("Promise 3", "Whether kind a is BELOW b", "first kinds");
        Calls x = new Calls(DUE);
        for (int a = 0; a < 20; a++) {
            for (int b = 0; b < 20; b++) {
                x.below(a, b, a == b || a >= 7 && b == 7 || isNumber(a) && b == 8);
            }
        }
    }

    private static void belowOfFamily() {
        DUE.sentence("Promise 3", "Whether kind a is BELOW b", "CLASSES");
        Calls x = family();
        String[] aboves = {"20 7", "21 20 7", "22 19 7", "23 21 20 7", "24 22 19 7", "25 20 7"};
        for (int a = 20; a < 26; a++) {
            for (int b = 0; b < 32; b++) {
                x.below(a, b, (" " + aboves[a - 20] + " ").contains(" " + b + " "));
            }
        }
        for (int a = 0; a < 20; a++) {
            for (int b = 20; b < 32; b++) {
                x.below(a, b, false);
            }
        }
    }

    private static void belowOfNoSuchKinds() {
        DUE.sentence("Promise 3", "False when there are no such kinds");
        Calls x = family();
        for (int k : Calls.NEVER_KINDS) {
            belowOfNone(x, k);
        }
        for (int k = 26; k < 32; k++) {
            belowOfNone(x, k);
        }
        x.newClass(7, 26);
        x.below(26, 26, true);
        x.below(26, 7, true);
        x.below(27, 7, false);
    }

    private static void belowOfNone(Calls x, int k) {
        for (int there : new int[] {0, 5, 7, 13, 19, 25}) {
            x.below(k, there, false);
            x.below(there, k, false);
        }
        x.below(k, k, false);
    }

    private static void meetOfFirstKinds() {
        DUE.sentence("Promise 4", "The least kind that both are BELOW", "first kinds");
        for (int classes = 0; classes <= 12; classes++) {
            meetOfFirstKinds(new Calls(DUE).withClasses(Calls.same(classes, 19)));
        }
    }

    private static void meetOfFirstKinds(Calls x) {
        for (int a = 0; a < 20; a++) {
            for (int b = 0; b < 20; b++) {
                int apart = a >= 7 && b >= 7 ? isNumber(a) && isNumber(b) ? 8 : 7 : -1;
                x.meet(a, b, a == b ? a : apart);
            }
        }
    }

    private static void meetOfFamily() {
        DUE.sentence("Promise 4", "The least kind that both are BELOW", "CLASSES");
        Calls x = family();
        int[][] rows = {
            {20, 20, 20}, {21, 20, 20}, {23, 21, 21}, {23, 25, 20}, {21, 25, 20}, {22, 24, 22}, {24, 19, 19},
            {22, 19, 19}, {22, 21, 7}, {24, 23, 7}, {20, 19, 7}, {20, 7, 7}, {20, 8, 7}, {20, 10, 7}, {24, 18, 7},
            {20, 5, -1}, {20, 0, -1}, {24, 24, 24}};
        for (int[] r : rows) {
            x.meet(r[0], r[1], r[2]);
            x.meet(r[1], r[0], r[2]);
        }
    }

    private static void meetOfChain() {
        DUE.sentence("Promise 4", "(by: each kind that both are BELOW this one is BELOW, too)");
        Calls x = chain();
        for (int a = 20; a < 32; a++) {
            for (int b = 7; b < 32; b++) {
                x.meet(a, b, b >= 19 ? Math.min(a, b) : 7);
            }
        }
    }

    private static void meetThatIsNone() {
        DUE.sentence("Promise 4", "NONE when there is none");
        for (int a = 0; a < 7; a++) {
            Calls x = new Calls(DUE).withAllClasses();
            for (int b = 0; b < 32; b++) {
                x.meet(a, b, a == b ? a : -1);
                x.meet(b, a, a == b ? a : -1);
            }
        }
    }

    private static void meetOfNoSuchKinds() {
        DUE.sentence("Promise 4", "or no such kinds");
        Calls x = family();
        for (int k : Calls.NEVER_KINDS) {
            meetOfNone(x, k);
        }
        for (int k = 26; k < 32; k++) {
            meetOfNone(x, k);
        }
        x.newClass(25, 26);
        x.meet(26, 26, 26);
        x.meet(26, 25, 25);
        x.meet(27, 25, -1);
    }

    private static void meetOfNone(Calls x, int k) {
        for (int there : new int[] {0, 5, 7, 13, 19, 25}) {
            x.meet(k, there, -1);
            x.meet(there, k, -1);
        }
        x.meet(k, k, -1);
    }

    private static boolean isNumber(int k) {
        return k == 8 || k == 10 || k == 11 || k == 13 || k == 14;
    }

    /** 20 under O, 21 under 20, 22 under E, 23 under 21, 24 under 22, 25 under 20. */
    private static Calls family() {
        return new Calls(DUE).withClasses(7, 20, 19, 21, 22, 20);
    }

    /** 20 under E, and each other CLASS under the one ahead of it. */
    private static Calls chain() {
        return new Calls(DUE).withClasses(19, 20, 21, 22, 23, 24, 25, 26, 27, 28, 29, 30);
    }
}
