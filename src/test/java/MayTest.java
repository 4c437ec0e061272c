/** Terms 3 about what MAY be passed, and promise 5: may. */
public final class MayTest {
    private static final Due DUE = new Due();

    public static void main(String[] args) {
        wholeTable();
        plainToPlain();
        plainToReference();
        referenceToReference();
        fromO();
        fromN();
        fromBox();
        fromOtherReferences();
        asResults();
        forcedPlainToPlain();
        forcedReferenceToPlain();
        noSuchKinds();
        noValueThatIsNoResult();
        DUE.end();
    }

    private static void wholeTable() {
        DUE.sentence("Promise 5", "Whether a value of kind a MAY be passed as b, or forced");
        for (int a = 0; a < MayTable.KINDS; a++) {
            Calls x = MayTable.calls(DUE);
            for (int b = 0; b < MayTable.KINDS; b++) {
                for (boolean forced : Calls.BOTH) {
                    x.may(a, b, forced, false, MayTable.may(a, b, forced, false));
                    x.may(a, b, forced, true, MayTable.may(a, b, forced, true));
                }
            }
        }
    }

    private static void plainToPlain() {
        DUE.sentence("Terms 3", "PLAIN to PLAIN: B to S, I, J; S to I, J; C to I, J; I to J");
        Calls x = new Calls(DUE);
        String[] wider = {"", "1", "2356", "356", "456", "56", "6"};
        for (int a = 1; a <= 6; a++) {
            for (int b = 1; b <= 6; b++) {
                x.may(a, b, false, false, wider[a].contains("" + b));
            }
        }
    }

    private static void plainToReference() {
        DUE.sentence("Terms 3", "PLAIN to a REFERENCE that the BOX of a is BELOW");
        for (int a = 1; a <= 6; a++) {
            Calls x = new Calls(DUE).withAllClasses();
            boolean number = a != 1 && a != 4;
            for (int b = 7; b < 32; b++) {
                boolean want = b == 7 || b == a + 8 || b == 8 && number;
                x.may(a, b, false, false, want);
                x.may(a, b, true, false, want);
            }
        }
    }

    private static void referenceToReference() {
        DUE.sentence("Terms 3", "REFERENCE to REFERENCE: as it is");
        for (int a = 7; a < 32; a++) {
            Calls x = new Calls(DUE).withAllClasses();
            for (int b = 7; b < 32; b++) {
                x.may(a, b, false, false, true);
                x.may(a, b, true, false, true);
            }
        }
    }

    private static void fromO() {
        DUE.sentence("Terms 3", "REFERENCE to PLAIN: from O");
        Calls x = new Calls(DUE);
        for (int b = 1; b <= 6; b++) {
            x.may(7, b, false, false, true);
        }
    }

    private static void fromN() {
        DUE.sentence("Terms 3", "from N to B, S, I, J");
        Calls x = new Calls(DUE);
        for (int b = 1; b <= 6; b++) {
            x.may(8, b, false, false, b != 1 && b != 4);
        }
    }

    private static void fromBox() {
        DUE.sentence("Terms 3", "from a BOX whose PLAIN kind MAY be passed as b");
        Calls x = new Calls(DUE);
        for (int box = 9; box <= 14; box++) {
            for (int b = 1; b <= 6; b++) {
                x.may(box, b, false, false, MayTable.may(box - 8, b, false, false));
            }
        }
    }

    private static void fromOtherReferences() {
        DUE.sentence("Terms 3", "REFERENCE to PLAIN: from O; from N to B, S, I, J; from a BOX");
        Calls x = new Calls(DUE).withAllClasses();
        for (int a = 15; a < 32; a++) {
            for (int b = 1; b <= 6; b++) {
                x.may(a, b, false, false, false);
                x.may(a, b, false, true, false);
            }
        }
    }

    private static void asResults() {
        DUE.sentence("Terms 3", "As RESULTS also V to any: the ZERO; any to V: nothing");
        Calls x = new Calls(DUE).withAllClasses();
        for (int k = 0; k < 32; k++) {
            for (boolean forced : Calls.BOTH) {
                x.may(0, k, forced, true, true);
                x.may(k, 0, forced, true, true);
            }
        }
    }

    private static void forcedPlainToPlain() {
        DUE.sentence("Terms 3", "FORCING: likewise, but PLAIN to PLAIN MAY always");
        Calls x = new Calls(DUE);
        for (int a = 1; a <= 6; a++) {
            for (int b = 1; b <= 6; b++) {
                x.may(a, b, true, false, true);
                x.may(a, b, true, true, true);
            }
        }
    }

    private static void forcedReferenceToPlain() {
        DUE.sentence("Terms 3", "and REFERENCE to PLAIN MAY from O, N and each BOX");
        Calls x = new Calls(DUE).withAllClasses();
        for (int a = 7; a < 32; a++) {
            for (int b = 1; b <= 6; b++) {
                x.may(a, b, true, false, a <= 14);
                x.may(a, b, true, true, a <= 14);
            }
        }
    }

    private static void noSuchKinds() {
        DUE.sentence("Promise 5", "False when there are no such kinds");
        for (int k : Calls.NEVER_KINDS) {
            mayOfNone(MayTable.calls(DUE), k);
        }
        for (int k = 22; k < 32; k++) {
            mayOfNone(MayTable.calls(DUE), k);
        }
        Calls x = MayTable.calls(DUE);
        x.newClass(7, 22);
        x.may(22, 22, false, false, true);
        x.may(7, 22, false, false, true);
        x.may(7, 23, false, false, false);
    }

    /** V among the others, as RESULTS too: it is passed as any kind, but only as one that is there. */
    private static void mayOfNone(Calls x, int k) {
        for (int other : new int[] {0, 1, 7, 13, 20, k}) {
            for (boolean forced : Calls.BOTH) {
                for (boolean end : Calls.BOTH) {
                    x.may(k, other, forced, end, false);
                    x.may(other, k, forced, end, false);
                }
            }
        }
    }

    private static void noValueThatIsNoResult() {
        DUE.sentence("Promise 5", "when one is V and end isn't so");
        Calls x = new Calls(DUE).withAllClasses();
        for (int k = 0; k < 32; k++) {
            for (boolean forced : Calls.BOTH) {
                x.may(0, k, forced, false, false);
                x.may(k, 0, forced, false, false);
            }
        }
    }
}
