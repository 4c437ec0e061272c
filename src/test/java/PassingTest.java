/** Promises 5 to 8: may, pass, kind, number. No table is used for more than its 512 calls. */
public final class PassingTest {
    private static final Due DUE = new Due();
    private static final int[] STRANGE = {-1, -2, 22, 31, 32, 33, 64, Integer.MIN_VALUE, Integer.MAX_VALUE};
    private static final long[] LOWEST = {0, 0, -128, -32768, 0, Integer.MIN_VALUE, Long.MIN_VALUE};
    private static final long[] HIGHEST = {0, 1, 127, 32767, 65535, Integer.MAX_VALUE, Long.MAX_VALUE};
    /** Row a, column b, both from 0 to 21: 'y' MAY, 'f' only by forcing, 'e' only as RESULTS, '-' not. */
    private static final String[] MAY = {
        //VZBSCIJONzbscijRRRHExx
        "eeeeeeeeeeeeeeeeeeeeee", // V
        "eyfffffy-y------------", // Z
        "efyyfyyyy-y-----------", // B
        "effyfyyyy--y----------", // S
        "efffyyyy----y---------", // C
        "effffyyyy----y--------", // I
        "efffffyyy-----y-------", // J
        "eyyyyyyyyyyyyyyyyyyyyy", // O
        "efyyfyyyyyyyyyyyyyyyyy", // N
        "eyfffffyyyyyyyyyyyyyyy", // the BOX of Z
        "efyyfyyyyyyyyyyyyyyyyy", // of B
        "effyfyyyyyyyyyyyyyyyyy", // of S
        "efffyyyyyyyyyyyyyyyyyy", // of C
        "effffyyyyyyyyyyyyyyyyy", // of I
        "efffffyyyyyyyyyyyyyyyy", // of J
        "e------yyyyyyyyyyyyyyy", // ROW of I
        "e------yyyyyyyyyyyyyyy", // ROW of J
        "e------yyyyyyyyyyyyyyy", // ROW of O
        "e------yyyyyyyyyyyyyyy", // H
        "e------yyyyyyyyyyyyyyy", // E
        "e------yyyyyyyyyyyyyyy", // CLASS under O
        "e------yyyyyyyyyyyyyyy", // CLASS under E
    };

    public static void main(String[] args) {
        mayTable();
        mayOfStrangeKinds();
        passRefusesWhatMayNot();
        plainBounds();
        plainKindIsNotLookedAt();
        widening();
        forcing();
        boxing();
        referenceToReference();
        objectsAndNumbers();
        noValueOfA();
        unboxing();
        forcedUnboxing();
        nulls();
        keptUntilTheNext();
        DUE.end();
    }

    private static void mayTable() {
        for (int a = 0; a < 22; a++) {
            KindTable x = table();
            for (int b = 0; b < 22; b++) {
                char c = MAY[a].charAt(b);
                String call = "may(" + a + ", " + b;
                DUE.same(call + ", false, false)", x.may(a, b, false, false), c == 'y');
                DUE.same(call + ", true, false)", x.may(a, b, true, false), c == 'y' || c == 'f');
                DUE.same(call + ", false, true)", x.may(a, b, false, true), c == 'y' || c == 'e');
                DUE.same(call + ", true, true)", x.may(a, b, true, true), c != '-');
            }
        }
    }

    private static void mayOfStrangeKinds() {
        KindTable x = table();
        for (int k : STRANGE) {
            for (int other : new int[] {0, 1, 7, 13, 20, k}) {
                for (int flags = 0; flags < 4; flags++) {
                    boolean forced = (flags & 1) != 0;
                    boolean end = (flags & 2) != 0;
                    String told = ", " + forced + ", " + end + ")";
                    DUE.same("may(" + k + ", " + other + told, x.may(k, other, forced, end), false);
                    DUE.same("may(" + other + ", " + k + told, x.may(other, k, forced, end), false);
                }
            }
        }
    }

    private static void passRefusesWhatMayNot() {
        for (int a = 0; a < 22; a++) {
            KindTable x = table();
            for (int b = 0; b < 22; b++) {
                char c = MAY[a].charAt(b);
                if (c != 'y') {
                    passes(x, a, b, false, 0, 0, -1);
                    passes(x, a, b, true, 0, 0, c == 'f' ? 0 : -1);
                }
            }
        }
        KindTable x = table();
        for (int k : STRANGE) {
            passes(x, k, 7, false, 0, 0, -1);
            passes(x, 7, k, true, 0, 0, -1);
            passes(x, k, k, false, 0, 0, -1);
        }
    }

    private static void plainBounds() {
        for (int k = 1; k <= 6; k++) {
            KindTable x = table();
            passes(x, k, k, false, 0, LOWEST[k], 0, 0, LOWEST[k]);
            passes(x, k, k, true, 0, HIGHEST[k], 0, 0, HIGHEST[k]);
            passes(x, k + 8, 7, false, k + 8, LOWEST[k], 0, k + 8, LOWEST[k]);
            passes(x, 7, k + 8, false, k + 8, HIGHEST[k], 0, k + 8, HIGHEST[k]);
            if (k < 6) {
                for (boolean forced : new boolean[] {false, true}) {
                    passes(x, k, k, forced, 0, LOWEST[k] - 1, -1);
                    passes(x, k, k, forced, 0, HIGHEST[k] + 1, -1);
                    passes(x, k, 7, forced, 0, HIGHEST[k] + 1, -1);
                    passes(x, 7, 7, forced, k + 8, LOWEST[k] - 1, -1);
                    passes(x, 7, k, forced, k + 8, HIGHEST[k] + 1, -1);
                    passes(x, 7, 18, forced, k + 8, HIGHEST[k] + 1, -1);
                }
                passes(x, k, 6, true, 0, Long.MIN_VALUE, -1);
                passes(x, k, 6, true, 0, Long.MAX_VALUE, -1);
            }
        }
    }

    private static void plainKindIsNotLookedAt() {
        KindTable x = table();
        for (int kind : new int[] {0, 1, 6, 7, 13, 20, 25, -1, Integer.MIN_VALUE, Integer.MAX_VALUE}) {
            passes(x, 5, 6, false, kind, 77, 0, 0, 77);
            passes(x, 5, 7, false, kind, 78, 0, 13, 78);
            passes(x, 5, 2, true, kind, 200, 0, 0, -56);
        }
    }

    private static void widening() {
        KindTable x = table();
        for (int a = 1; a <= 6; a++) {
            for (int b = 1; b <= 6; b++) {
                if (MAY[a].charAt(b) == 'y') {
                    passes(x, a, b, false, 0, LOWEST[a], 0, 0, LOWEST[a]);
                    passes(x, a, b, false, 0, HIGHEST[a], 0, 0, HIGHEST[a]);
                }
            }
        }
    }

    private static void forcing() {
        KindTable x = table();
        long[][] rows = {
            // from, to, number, what comes of it
            {2, 1, -1, 1}, {5, 1, 2, 0}, {5, 1, 3, 1}, {6, 1, Long.MIN_VALUE, 0}, {6, 1, Long.MAX_VALUE, 1},
            {1, 2, 1, 1}, {5, 2, 127, 127}, {5, 2, 128, -128}, {5, 2, 255, -1}, {5, 2, 256, 0}, {5, 2, -129, 127},
            {4, 3, 65535, -1}, {4, 3, 32768, -32768}, {4, 3, 32767, 32767}, {6, 3, 65536, 0}, {1, 3, 1, 1},
            {2, 4, -1, 65535}, {3, 4, -32768, 32768}, {5, 4, 65536, 0}, {5, 4, -65537, 65535}, {6, 4, 98304, 32768},
            {6, 5, 4294967295L, -1}, {6, 5, 2147483648L, Integer.MIN_VALUE}, {6, 5, 4294967296L, 0}, {1, 5, 1, 1},
            {1, 6, 1, 1}, {5, 6, -5, -5}, {2, 6, -128, -128}, {4, 6, 65535, 65535},
        };
        for (long[] r : rows) {
            passes(x, (int) r[0], (int) r[1], true, 0, r[2], 0, 0, r[3]);
            passes(x, 7, (int) r[1], true, (int) r[0] + 8, r[2], 0, 0, r[3]);
            passes(x, (int) r[0] + 8, (int) r[1], true, (int) r[0] + 8, r[2], 0, 0, r[3]);
        }
    }

    private static void boxing() {
        for (int a = 1; a <= 6; a++) {
            KindTable x = table();
            for (int b = 7; b < 22; b++) {
                for (boolean forced : new boolean[] {false, true}) {
                    if (MAY[a].charAt(b) == 'y') {
                        passes(x, a, b, forced, 0, 1, 0, a + 8, 1);
                    } else {
                        passes(x, a, b, forced, 0, 1, -1);
                    }
                }
            }
        }
    }

    private static void referenceToReference() {
        for (int b = 7; b < 22; b++) {
            KindTable x = table();
            for (int kind = 9; kind < 22; kind++) {
                for (boolean forced : new boolean[] {false, true}) {
                    boolean number = kind == 10 || kind == 11 || kind == 13 || kind == 14;
                    boolean value = b == 7 || b == kind || b == 8 && number || b == 19 && kind == 21;
                    if (value) {
                        passes(x, 7, b, forced, kind, 1, 0, kind, 1);
                    } else {
                        passes(x, 7, b, forced, kind, 1, 2);
                    }
                }
            }
        }
    }

    private static void objectsAndNumbers() {
        KindTable x = table();
        for (int kind = 15; kind < 22; kind++) {
            for (long number : new long[] {0, -1, 5, Long.MIN_VALUE, Long.MAX_VALUE}) {
                passes(x, kind, 7, false, kind, number, 0, kind, number);
                passes(x, kind, kind, true, kind, number, 0, kind, number);
            }
        }
    }

    private static void noValueOfA() {
        for (int a = 7; a < 22; a++) {
            KindTable x = table();
            for (int kind = 1; kind <= 8; kind++) {
                passes(x, a, 7, false, kind, 1, -1);
                passes(x, a, a, true, kind, 1, -1);
            }
            for (int kind : STRANGE) {
                passes(x, a, 7, false, kind, 1, -1);
            }
        }
        KindTable x = table();
        for (int[] r : new int[][] {{8, 9}, {8, 12}, {8, 15}, {8, 20}, {13, 14}, {14, 13}, {15, 16}, {18, 19},
                {19, 20}, {20, 21}, {21, 19}, {21, 20}, {9, 10}}) {
            passes(x, r[0], 7, false, r[1], 1, -1);
            passes(x, r[0], r[1], false, r[1], 1, -1);
        }
        passes(x, 8, 5, true, 12, 1, -1);
        passes(x, 13, 5, false, 10, 1, -1);
        passes(x, 8, 5, false, 13, 2147483648L, -1);
        passes(x, 19, 21, false, 21, 6, 0, 21, 6);
        passes(x, 19, 21, false, 19, 6, 2);
    }

    private static void unboxing() {
        for (int b = 1; b <= 6; b++) {
            KindTable x = table();
            for (int box = 9; box <= 14; box++) {
                boolean may = MAY[box - 8].charAt(b) == 'y';
                if (may) {
                    passes(x, 7, b, false, box, 1, 0, 0, 1);
                    passes(x, box, b, false, box, LOWEST[box - 8], 0, 0, LOWEST[box - 8]);
                } else {
                    passes(x, 7, b, false, box, 1, 2);
                    passes(x, box, b, false, box, 1, -1);
                }
            }
            for (int kind = 15; kind < 22; kind++) {
                passes(x, 7, b, false, kind, 1, 2);
                passes(x, kind, b, false, kind, 1, -1);
            }
        }
        KindTable x = table();
        passes(x, 8, 2, false, 10, -7, 0, 0, -7);
        passes(x, 8, 2, false, 14, -7, 2);
        passes(x, 8, 6, false, 13, -7, 0, 0, -7);
        passes(x, 8, 4, false, 13, 7, -1);
    }

    private static void forcedUnboxing() {
        for (int b = 1; b <= 6; b++) {
            KindTable x = table();
            for (int box = 9; box <= 14; box++) {
                passes(x, 7, b, true, box, 1, 0, 0, 1);
                passes(x, box, b, true, box, 1, 0, 0, 1);
            }
            for (int kind = 15; kind < 22; kind++) {
                passes(x, 7, b, true, kind, 1, 2);
                passes(x, kind, b, true, kind, 1, -1);
                passes(x, kind, b, true, 0, 1, -1);
            }
        }
        KindTable x = table();
        passes(x, 8, 1, true, 13, -1, 0, 0, 1);
        passes(x, 8, 4, true, 14, -1, 0, 0, 65535);
    }

    private static void nulls() {
        for (int a = 7; a < 22; a++) {
            KindTable x = table();
            for (int b = 7; b < 22; b++) {
                passes(x, a, b, false, 0, 9, 0, 0, 0);
                passes(x, a, b, true, 0, Long.MIN_VALUE, 0, 0, 0);
            }
            for (int b = 1; b <= 6; b++) {
                char c = MAY[a].charAt(b);
                passes(x, a, b, false, 0, 9, c == 'y' ? 1 : -1);
                if (c != '-') {
                    passes(x, a, b, true, 0, 9, 0, 0, 0);
                }
            }
        }
    }

    private static void keptUntilTheNext() {
        KindTable x = table();
        passes(x, 4, 7, false, 0, 65535, 0, 12, 65535);
        passes(x, 7, 5, false, 0, 4, 1);
        passes(x, 7, 5, false, 18, 4, 2);
        passes(x, 5, 2, false, 0, 4, -1);
        x.newClass(7);
        x.put(5);
        x.type(5);
        x.may(7, 5, true, true);
        x.mayBe(0, 0, true);
        x.changed(0, 0, 1, 0);
        DUE.same("kept: kind()", x.kind(), 12);
        DUE.same("kept: number()", x.number(), 65535);
        passes(x, 5, 5, false, 0, -4, 0, 0, -4);
        DUE.same("kept: kind() again", x.kind(), 0);
        DUE.same("kept: number() again", x.number(), -4);
    }

    /** A pass() that is refused or tells an ERROR: what came of an earlier one stays. */
    private static void passes(KindTable x, int a, int b, boolean forced, int kind, long number, int want) {
        if (want == 0) {
            DUE.same(callOf(a, b, forced, kind, number), x.pass(a, b, forced, kind, number), want);
            return;
        }
        passes(x, a, b, forced, kind, number, want, x.kind(), x.number());
    }

    private static void passes(KindTable x, int a, int b, boolean forced, int kind, long number, int want,
            int wantKind, long wantNumber) {
        String call = callOf(a, b, forced, kind, number);
        DUE.same(call, x.pass(a, b, forced, kind, number), want);
        DUE.same("kind() after " + call, x.kind(), wantKind);
        DUE.same("number() after " + call, x.number(), wantNumber);
    }

    private static String callOf(int a, int b, boolean forced, int kind, long number) {
        return "pass(" + a + ", " + b + ", " + forced + ", " + kind + ", " + number + ")";
    }

    /** With CLASS 20 under O and 21 under E. */
    private static KindTable table() {
        KindTable x = new KindTable();
        x.newClass(7);
        x.newClass(19);
        return x;
    }
}
