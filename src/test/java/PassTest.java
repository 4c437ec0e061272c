/** Terms 1 about values, Terms 3 about what comes of PASSING, and promises 6 to 8: pass, kind, number. */
public final class PassTest {
    private static final Due DUE = new Due();
    private static final String[] RANGES = {"", "1 Z (0, 1)", "2 B (-128 .. 127)", "3 S (-32,768 .. 32,767)",
        "4 C (0 .. 65,535)", "5 I (an int)", "6 J (a long)"};
    private static final long[] LOWEST = {0, 0, -128, -32768, 0, Integer.MIN_VALUE, Long.MIN_VALUE};
    private static final long[] HIGHEST = {0, 1, 127, 32767, 65535, Integer.MAX_VALUE, Long.MAX_VALUE};
    private static final int NONE = KindTable.NONE;
    private static final int NULL_ERROR = 1;
    private static final int KIND_ERROR = 2;

    public static void main(String[] args) {
        rangesOfPlainKinds();
        boxHasNumberOfItsKind();
        nullOfEachReference();
        objectsOfKindsBelow();
        noObjectsOfOtherKinds();

        asItIs();
        widening();
        boxing();
        referenceToReference();
        nullAsPlain();
        noBoxAsPlain();
        boxOfOtherKindAsPlain();
        boxAsPlain();
        forcedToZ();
        forcedToC();
        forcedToOthers();
        forcedUnboxing();
        forcedNull();
        forcedNoBox();
        errorsToldHere();

        kindOfPlainIsNotLookedAt();
        numberOfNullIsNotLookedAt();
        refusedWhenItMayNot();
        refusedAsResult();
        refusedForPlainThatIsNone();
        refusedForObjectThatIsNone();

        latestThatWasZero();
        kindOfNullAndPlain();
        kindOfObject();
        kindBefore();
        numberAsTold();
        numberOfNull();
        numberBefore();
        DUE.end();
    }

    private static void rangesOfPlainKinds() {
        for (int k = 1; k <= 6; k++) {
            DUE.sentence("Terms 1", RANGES[k]);
            Calls x = MayTable.calls(DUE);
            for (boolean forced : Calls.BOTH) {
                for (long number : new long[] {LOWEST[k], 0, 1, HIGHEST[k]}) {
                    x.gives(k, k, forced, 0, number, 0, number);
                    x.gives(k, 7, forced, 0, number, k + 8, number);
                }
                for (long number : beyond(k)) {
                    x.stays(k, k, forced, 0, number, NONE);
                    x.stays(k, 7, forced, 0, number, NONE);
                }
            }
        }
    }

    private static void boxHasNumberOfItsKind() {
        for (int k = 1; k <= 6; k++) {
            DUE.sentence("Terms 1", "a BOX has a number of its PLAIN kind", RANGES[k]);
            Calls x = MayTable.calls(DUE);
            for (boolean forced : Calls.BOTH) {
                for (long number : new long[] {LOWEST[k], HIGHEST[k]}) {
                    x.gives(k + 8, 7, forced, k + 8, number, k + 8, number);
                    x.gives(7, k, forced, k + 8, number, 0, number);
                    x.stays(7, 18, forced, k + 8, number, KIND_ERROR);
                }
                for (long number : beyond(k)) {
                    x.stays(k + 8, 7, forced, k + 8, number, NONE);
                    x.stays(7, k, forced, k + 8, number, NONE);
                    x.stays(7, 18, forced, k + 8, number, NONE);
                }
            }
        }
    }

    /** Numbers that are none of a PLAIN kind: next to its range, a whole round away, and far off; J has none. */
    private static long[] beyond(int k) {
        if (k == 6) {
            return new long[0];
        }
        long round = HIGHEST[k] - LOWEST[k] + 1;
        return new long[] {LOWEST[k] - 1, HIGHEST[k] + 1, LOWEST[k] - round, LOWEST[k] + round, HIGHEST[k] + round,
            Long.MIN_VALUE, Long.MAX_VALUE};
    }

    private static void nullOfEachReference() {
        DUE.sentence("Terms 1", "NULL of each REFERENCE");
        for (int a = 7; a < 32; a++) {
            Calls x = new Calls(DUE).withAllClasses();
            for (int b = 7; b < 32; b++) {
                x.gives(a, b, false, 0, 0, 0, 0);
                x.gives(a, b, true, 0, 0, 0, 0);
            }
        }
    }

    private static void objectsOfKindsBelow() {
        DUE.sentence("Terms 1", "An OBJECT is a value of each kind that its kind is BELOW");
        for (int a = 7; a < 26; a++) {
            // 20 under O, 21 under 20, 22 under E, 23 under 21, 24 under 22, 25 under 20.
            Calls x = new Calls(DUE).withClasses(7, 20, 19, 21, 22, 20);
            for (int kind = 9; kind < 26; kind++) {
                if (isBelow(kind, a)) {
                    x.gives(a, 7, false, kind, 1, kind, 1);
                    x.gives(a, kind, true, kind, 1, kind, 1);
                } else {
                    x.stays(a, 7, false, kind, 1, NONE);
                    x.stays(a, kind, true, kind, 1, NONE);
                }
            }
        }
    }

    /** For OBJECTS' kinds, with the CLASSES of objectsOfKindsBelow(). */
    private static boolean isBelow(int kind, int a) {
        boolean number = kind == 10 || kind == 11 || kind == 13 || kind == 14;
        String[] aboves = {" 20 ", " 21 20 ", " 22 19 ", " 23 21 20 ", " 24 22 19 ", " 25 20 "};
        return a == 7 || a == kind || a == 8 && number || kind >= 20 && aboves[kind - 20].contains(" " + a + " ");
    }

    private static void noObjectsOfOtherKinds() {
        DUE.sentence("Terms 1", "OBJECTS, each of which has a kind");
        for (int a = 7; a < MayTable.KINDS; a++) {
            Calls x = MayTable.calls(DUE);
            // V and PLAIN kinds have no OBJECTS, O and N none but those of kinds BELOW them.
            for (int kind = 1; kind <= 8; kind++) {
                x.stays(a, 7, false, kind, 1, NONE);
                x.stays(a, a, true, kind, 1, NONE);
            }
        }
    }

    private static void asItIs() {
        DUE.sentence("Terms 3", "a is b: as it is");
        Calls x = MayTable.calls(DUE);
        for (boolean forced : Calls.BOTH) {
            for (int k = 1; k <= 6; k++) {
                x.gives(k, k, forced, 0, LOWEST[k], 0, LOWEST[k]);
                x.gives(k, k, forced, 0, HIGHEST[k], 0, HIGHEST[k]);
            }
            for (int k = 9; k < MayTable.KINDS; k++) {
                x.gives(k, k, forced, k, 1, k, 1);
            }
        }
    }

    private static void widening() {
        DUE.sentence("Terms 3", "B to S, I, J; S to I, J; C to I, J; I to J: the number");
        Calls x = new Calls(DUE);
        for (int a = 1; a <= 6; a++) {
            for (int b = 1; b <= 6; b++) {
                if (MayTable.may(a, b, false, false)) {
                    x.gives(a, b, false, 0, LOWEST[a], 0, LOWEST[a]);
                    x.gives(a, b, false, 0, HIGHEST[a], 0, HIGHEST[a]);
                } else {
                    x.stays(a, b, false, 0, 1, NONE);
                }
            }
        }
    }

    private static void boxing() {
        DUE.sentence("Terms 3", "PLAIN to a REFERENCE that the BOX of a is BELOW: a BOX with it");
        for (int a = 1; a <= 6; a++) {
            Calls x = MayTable.calls(DUE);
            for (int b = 7; b < MayTable.KINDS; b++) {
                for (boolean forced : Calls.BOTH) {
                    if (MayTable.may(a, b, forced, false)) {
                        x.gives(a, b, forced, 0, LOWEST[a], a + 8, LOWEST[a]);
                        x.gives(a, b, forced, 0, HIGHEST[a], a + 8, HIGHEST[a]);
                    } else {
                        x.stays(a, b, forced, 0, 1, NONE);
                    }
                }
            }
        }
    }

    private static void referenceToReference() {
        DUE.sentence("Terms 3", "REFERENCE to REFERENCE: as it is; an OBJECT that is no value of b: ERROR 2");
        for (int b = 7; b < 26; b++) {
            Calls x = new Calls(DUE).withClasses(7, 20, 19, 21, 22, 20);
            for (int kind = 9; kind < 26; kind++) {
                for (boolean forced : Calls.BOTH) {
                    if (isBelow(kind, b)) {
                        x.gives(7, b, forced, kind, 1, kind, 1);
                    } else {
                        x.stays(7, b, forced, kind, 1, KIND_ERROR);
                    }
                }
            }
            x.gives(7, b, false, 0, 1, 0, 0);
        }
    }

    private static void nullAsPlain() {
        DUE.sentence("Terms 3", "NULL: ERROR 1");
        Calls x = MayTable.calls(DUE);
        x.gives(5, 7, false, 0, 9, 13, 9);
        for (int a = 7; a < MayTable.KINDS; a++) {
            for (int b = 1; b <= 6; b++) {
                x.stays(a, b, false, 0, 9, MayTable.may(a, b, false, false) ? NULL_ERROR : NONE);
            }
        }
    }

    private static void noBoxAsPlain() {
        DUE.sentence("Terms 3", "an OBJECT that is no BOX");
        Calls x = MayTable.calls(DUE);
        for (int kind = 15; kind < MayTable.KINDS; kind++) {
            for (int b = 1; b <= 6; b++) {
                x.stays(7, b, false, kind, 1, KIND_ERROR);
                x.stays(kind, b, false, kind, 1, NONE);
            }
        }
    }

    private static void boxOfOtherKindAsPlain() {
        DUE.sentence("Terms 3", "or one whose PLAIN kind may not be passed as b: ERROR 2");
        Calls x = new Calls(DUE);
        for (int k = 1; k <= 6; k++) {
            for (int b = 1; b <= 6; b++) {
                if (!MayTable.may(k, b, false, false)) {
                    // By its kind, though the number would be one of b's.
                    x.stays(7, b, false, k + 8, 1, KIND_ERROR);
                    x.stays(k + 8, b, false, k + 8, 1, NONE);
                }
            }
        }
        x.stays(8, 2, false, 14, 1, KIND_ERROR);
        x.stays(8, 5, false, 14, 1, KIND_ERROR);
        x.stays(8, 3, false, 13, 1, KIND_ERROR);
        x.stays(8, 2, false, 11, 1, KIND_ERROR);
    }

    private static void boxAsPlain() {
        DUE.sentence("Terms 3", "else its number");
        Calls x = new Calls(DUE);
        for (int k = 1; k <= 6; k++) {
            for (int b = 1; b <= 6; b++) {
                if (MayTable.may(k, b, false, false)) {
                    x.gives(7, b, false, k + 8, LOWEST[k], 0, LOWEST[k]);
                    x.gives(k + 8, b, false, k + 8, HIGHEST[k], 0, HIGHEST[k]);
                }
            }
        }
        x.gives(8, 2, false, 10, -7, 0, -7);
        x.gives(8, 6, false, 13, -7, 0, -7);
    }

    private static void forcedToZ() {
        DUE.sentence("Terms 3", "the number's lowest bits as one of b (of Z one bit");
        Calls x = new Calls(DUE);
        forces(x, 6, 1, 0, 0, 1, 1, 2, 0, 3, 1, -1, 1, -2, 0, 256, 0, Long.MIN_VALUE, 0, Long.MAX_VALUE, 1);
        forces(x, 2, 1, -128, 0, -1, 1, 127, 1);
        forces(x, 3, 1, -32768, 0, 32767, 1);
        forces(x, 4, 1, 65534, 0, 65535, 1);
        forces(x, 5, 1, Integer.MIN_VALUE, 0, Integer.MAX_VALUE, 1);
    }

    private static void forcedToC() {
        DUE.sentence("Terms 3", "of C without sign");
        Calls x = new Calls(DUE);
        forces(x, 6, 4, 65535, 65535, 65536, 0, 65537, 1, 98304, 32768, -1, 65535, -65536, 0, -65537, 65535,
                Long.MIN_VALUE, 0, Long.MAX_VALUE, 65535);
        forces(x, 1, 4, 0, 0, 1, 1);
        forces(x, 2, 4, 127, 127, -1, 65535, -128, 65408);
        forces(x, 3, 4, 32767, 32767, -1, 65535, -32768, 32768);
        forces(x, 5, 4, 65535, 65535, 65536, 0, -1, 65535, Integer.MIN_VALUE, 0, Integer.MAX_VALUE, 65535);
    }

    private static void forcedToOthers() {
        DUE.sentence("Terms 3", "of others with sign)");
        Calls x = new Calls(DUE);
        forces(x, 6, 2, 127, 127, 128, -128, 255, -1, 256, 0, -128, -128, -129, 127, -256, 0, Long.MIN_VALUE, 0,
                Long.MAX_VALUE, -1);
        forces(x, 6, 3, 32767, 32767, 32768, -32768, 65535, -1, 65536, 0, -32768, -32768, -32769, 32767,
                Long.MIN_VALUE, 0, Long.MAX_VALUE, -1);
        forces(x, 6, 5, 2147483647L, Integer.MAX_VALUE, 2147483648L, Integer.MIN_VALUE, 4294967295L, -1, 4294967296L, 0,
                -2147483648L, Integer.MIN_VALUE, -2147483649L, Integer.MAX_VALUE, Long.MIN_VALUE, 0,
                Long.MAX_VALUE, -1);
        forces(x, 4, 2, 127, 127, 128, -128, 65535, -1);
        forces(x, 4, 3, 32767, 32767, 32768, -32768, 65535, -1);
        Calls y = new Calls(DUE);
        for (int a = 1; a <= 6; a++) {
            forces(y, a, 6, LOWEST[a], LOWEST[a], HIGHEST[a], HIGHEST[a]);
        }
        forces(y, 1, 2, 0, 0, 1, 1);
        forces(y, 1, 3, 0, 0, 1, 1);
        forces(y, 1, 5, 0, 0, 1, 1);
    }

    /** Pairs of a number of a PLAIN kind and what it is forced to, also out of its BOX. */
    private static void forces(Calls x, int a, int b, long... pairs) {
        for (int i = 0; i < pairs.length; i += 2) {
            x.gives(a, b, true, 0, pairs[i], 0, pairs[i + 1]);
            x.gives(a + 8, b, true, a + 8, pairs[i], 0, pairs[i + 1]);
        }
    }

    private static void forcedUnboxing() {
        DUE.sentence("Terms 3", "else its number is forced");
        Calls x = new Calls(DUE);
        for (int box = 9; box <= 14; box++) {
            for (int b = 1; b <= 6; b++) {
                x.gives(7, b, true, box, 1, 0, 1);
                x.gives(box, b, true, box, 1, 0, 1);
            }
        }
        x.gives(7, 2, true, 13, 128, 0, -128);
        x.gives(7, 4, true, 10, -1, 0, 65535);
        x.gives(8, 1, true, 13, -1, 0, 1);
        x.gives(8, 4, true, 14, -1, 0, 65535);
        x.gives(8, 5, true, 14, 4294967297L, 0, 1);
    }

    private static void forcedNull() {
        DUE.sentence("Terms 3", "NULL: 0", "FORCING");
        Calls x = MayTable.calls(DUE);
        for (int a = 7; a < MayTable.KINDS; a++) {
            for (int b = 1; b <= 6; b++) {
                if (a <= 14) {
                    x.gives(a, b, true, 0, 9, 0, 0);
                } else {
                    x.stays(a, b, true, 0, 9, NONE);
                }
            }
            x.gives(6, 7, true, 0, 5, 14, 5);
        }
    }

    private static void forcedNoBox() {
        DUE.sentence("Terms 3", "no BOX: ERROR 2", "FORCING");
        Calls x = MayTable.calls(DUE);
        for (int kind = 15; kind < MayTable.KINDS; kind++) {
            for (int b = 1; b <= 6; b++) {
                x.stays(7, b, true, kind, 1, KIND_ERROR);
                x.stays(kind, b, true, kind, 1, NONE);
            }
        }
    }

    private static void errorsToldHere() {
        DUE.sentence("Terms 3", "ERRORS told here: 1 NULL, 2 an OBJECT of another kind");
        Calls x = MayTable.calls(DUE);
        x.stays(7, 5, false, 0, 0, 1);
        x.stays(7, 5, false, 18, 0, 2);
        x.stays(7, 5, false, 14, 0, 2);
        x.stays(7, 5, true, 18, 0, 2);
        x.stays(7, 20, false, 21, 0, 2);
        x.stays(7, 20, true, 21, 0, 2);
        // NULL is of each REFERENCE, and forced to a PLAIN kind it is 0.
        x.gives(7, 20, false, 0, 0, 0, 0);
        x.gives(7, 5, true, 0, 0, 0, 0);
    }

    private static void kindOfPlainIsNotLookedAt() {
        DUE.sentence("Promise 6", "a PLAIN one is the number (kind is not looked at)");
        Calls x = MayTable.calls(DUE);
        for (int kind : new int[] {0, 1, 5, 6, 7, 13, 20, 25, 32, -1, Integer.MIN_VALUE, Integer.MAX_VALUE}) {
            x.gives(5, 6, false, kind, 77, 0, 77);
            x.gives(5, 7, false, kind, 78, 13, 78);
            x.gives(5, 2, true, kind, 200, 0, -56);
        }
    }

    private static void numberOfNullIsNotLookedAt() {
        DUE.sentence("Promise 6", "0 for NULL (the number then isn't looked at)");
        Calls x = MayTable.calls(DUE);
        for (long number : new long[] {0, 1, -1, 2, 128, 65536, Long.MIN_VALUE, Long.MAX_VALUE}) {
            for (int a = 7; a < 15; a++) {
                x.gives(a, 7, false, 0, number, 0, 0);
                x.gives(a, 1, true, 0, number, 0, 0);
            }
            x.stays(7, 1, false, 0, number, NULL_ERROR);
            x.stays(9, 1, false, 0, number, NULL_ERROR);
        }
    }

    private static void refusedWhenItMayNot() {
        DUE.sentence("Promise 6", "NONE, refused, when it MAY not");
        for (int a = 0; a < MayTable.KINDS; a++) {
            Calls x = MayTable.calls(DUE);
            x.gives(4, 7, false, 0, 65535, 12, 65535);
            for (int b = 0; b < MayTable.KINDS; b++) {
                for (boolean forced : Calls.BOTH) {
                    if (!MayTable.may(a, b, forced, false)) {
                        x.stays(a, b, forced, 0, 1, NONE);
                        x.stays(a, b, forced, a, 1, NONE);
                    }
                }
            }
        }
        Calls x = MayTable.calls(DUE);
        for (int k : Calls.NEVER_KINDS) {
            x.stays(k, 7, false, 0, 1, NONE);
            x.stays(7, k, true, 0, 1, NONE);
            x.stays(k, k, false, k, 1, NONE);
        }
        x.stays(22, 7, false, 0, 1, NONE);
        x.stays(7, 22, false, 0, 1, NONE);
        x.stays(22, 22, true, 0, 1, NONE);
    }

    private static void refusedAsResult() {
        DUE.sentence("Promise 6", "A value of kind a is passed as b, or forced (as no RESULT)");
        Calls x = MayTable.calls(DUE);
        for (int k = 0; k < MayTable.KINDS; k++) {
            x.stays(0, k, false, 0, 0, NONE);
            x.stays(k, 0, false, 0, 0, NONE);
            x.stays(0, k, true, 0, 0, NONE);
            x.stays(k, 0, true, 0, 0, NONE);
        }
    }

    private static void refusedForPlainThatIsNone() {
        DUE.sentence("Promise 6", "or what is told is no value of a", "PLAIN");
        for (int a = 1; a <= 5; a++) {
            Calls x = new Calls(DUE);
            x.gives(6, 6, false, 0, 44, 0, 44);
            for (int b = 1; b <= 6; b++) {
                x.stays(a, b, true, 0, LOWEST[a] - 1, NONE);
                x.stays(a, b, true, 0, HIGHEST[a] + 1, NONE);
                x.stays(a, b, false, 0, HIGHEST[a] + 1, NONE);
            }
        }
    }

    private static void refusedForObjectThatIsNone() {
        DUE.sentence("Promise 6", "or what is told is no value of a", "REFERENCES");
        for (int a = 7; a < MayTable.KINDS; a++) {
            Calls x = MayTable.calls(DUE);
            x.gives(4, 7, false, 0, 65535, 12, 65535);
            for (int kind : Calls.NEVER_KINDS) {
                x.stays(a, 7, false, kind, 1, NONE);
                x.stays(a, 5, true, kind, 1, NONE);
            }
            for (int kind = 22; kind < 32; kind++) {
                x.stays(a, 7, false, kind, 1, NONE);
            }
        }
        // No value of a comes ahead of the ERRORS that such an OBJECT would be.
        Calls x = MayTable.calls(DUE);
        x.stays(8, 5, false, 12, 1, NONE);
        x.stays(8, 5, true, 15, 1, NONE);
        x.stays(13, 5, false, 10, 1, NONE);
        x.stays(8, 5, false, 13, 2147483648L, NONE);
        x.stays(7, 2, false, 13, 2147483648L, NONE);
        x.stays(20, 21, false, 19, 1, NONE);
        x.gives(19, 21, false, 21, 6, 21, 6);
        x.stays(19, 21, false, 19, 6, KIND_ERROR);
        x.stays(19, 20, false, 21, 6, KIND_ERROR);
    }

    private static void latestThatWasZero() {
        DUE.sentence("Promise 7", "What came of the latest pass() that was 0");
        Calls x = MayTable.calls(DUE);
        x.gives(4, 7, false, 0, 65535, 12, 65535);
        x.stays(7, 5, false, 0, 4, NULL_ERROR);
        x.stays(7, 5, false, 18, 4, KIND_ERROR);
        x.stays(7, 18, false, 13, 4, KIND_ERROR);
        x.stays(5, 2, false, 0, 4, NONE);
        x.newClass(7, 22);
        x.makes(0, 5, 5);
        x.may(7, 5, true, true, true);
        x.mayBe(0, 0, true, true);
        x.changed(0, 0, 1, 0, 0);
        x.latest("after other calls");
        x.latest("asked again");
        x.gives(5, 5, false, 0, -4, 0, -4);
        x.gives(20, 7, false, 20, 3, 20, 3);
    }

    private static void kindOfNullAndPlain() {
        DUE.sentence("Promise 7", "0 for NULL and PLAIN ones");
        Calls x = MayTable.calls(DUE);
        x.gives(7, 7, false, 18, 3, 18, 3);
        x.gives(7, 7, false, 0, 3, 0, 0);
        x.gives(7, 7, false, 18, 3, 18, 3);
        x.gives(5, 6, false, 13, 3, 0, 3);
        x.gives(7, 7, false, 18, 3, 18, 3);
        x.gives(13, 6, false, 13, 3, 0, 3);
        x.gives(7, 7, false, 18, 3, 18, 3);
        x.gives(14, 2, true, 14, 3, 0, 3);
    }

    private static void kindOfObject() {
        DUE.sentence("Promise 7", "the OBJECT's kind");
        Calls x = new Calls(DUE).withClasses(7, 20, 21, 22, 23, 24, 25, 26, 27, 28, 29, 30);
        for (int kind = 9; kind < 32; kind++) {
            x.gives(7, 7, false, kind, 1, kind, 1);
            x.gives(7, kind, true, kind, 0, kind, 0);
        }
        x.gives(20, 25, false, 31, 1, 31, 1);
    }

    private static void kindBefore() {
        DUE.sentence("Promise 7", "0 for NULL and PLAIN ones, or before");
        Calls x = MayTable.calls(DUE);
        x.kind("before any pass()");
        passesNone(x);
        x.kind("before any pass() that was 0");
    }

    private static void passesNone(Calls x) {
        x.stays(5, 2, false, 13, 4, NONE);
        x.stays(13, 2, true, 14, 4, NONE);
        x.stays(7, 5, false, 0, 4, NULL_ERROR);
        x.stays(7, 5, false, 18, 4, KIND_ERROR);
        x.stays(7, 18, true, 13, 4, KIND_ERROR);
    }

    private static void numberAsTold() {
        DUE.sentence("Promise 8", "Its number: of a PLAIN one, of a BOX, or as it was told");
        Calls x = MayTable.calls(DUE);
        for (int k = 1; k <= 6; k++) {
            x.gives(k, k, false, 0, HIGHEST[k], 0, HIGHEST[k]);
            x.gives(k, 7, false, 0, LOWEST[k], k + 8, LOWEST[k]);
            x.gives(k + 8, 7, false, k + 8, HIGHEST[k], k + 8, HIGHEST[k]);
        }
        for (int kind = 15; kind < MayTable.KINDS; kind++) {
            for (long number : new long[] {0, -1, 5, Long.MIN_VALUE, Long.MAX_VALUE}) {
                x.gives(kind, 7, false, kind, number, kind, number);
                x.gives(kind, kind, true, kind, number, kind, number);
            }
        }
    }

    private static void numberOfNull() {
        DUE.sentence("Promise 8", "0 for NULL");
        Calls x = MayTable.calls(DUE);
        for (int a = 7; a < MayTable.KINDS; a++) {
            x.gives(6, 6, false, 0, -8, 0, -8);
            x.gives(a, a, false, 0, 7, 0, 0);
            x.gives(6, 7, false, 0, 8, 14, 8);
            x.gives(a, 7, true, 0, Long.MIN_VALUE, 0, 0);
        }
        x.gives(6, 6, false, 0, -8, 0, -8);
        x.gives(7, 6, true, 0, 7, 0, 0);
    }

    private static void numberBefore() {
        DUE.sentence("Promise 8", "0 for NULL, or before");
        Calls x = MayTable.calls(DUE);
        x.number("before any pass()");
        passesNone(x);
        x.number("before any pass() that was 0");
    }
}
