/** Terms 2, and promises 9 to 12: put, type, typeAbout, mayBe. */
public final class TypesTest {
    private static final Due DUE = new Due();
    private static final int NONE = KindTable.NONE;
    /** Kinds that are not there in an object without CLASSES. */
    private static final int[] NOT_THERE = {-1, 20, 31, 32, 33, 39, -27, Integer.MIN_VALUE, Integer.MAX_VALUE};
    private static final int[] ELEVEN = {1, 2, 3, 4, 5, 6, 7, 8, 9, 10, 11};

    public static void main(String[] args) {
        numberedAsFirstMade();
        threeHundredAtMost();
        zeroToTenPlaces();
        equalOnesAreOne();
        differentOnesAreApart();

        putUpToTwenty();
        putTakesAnyKind();

        rowIsEmptyThen();
        rowIsEmptyWhenRefused();
        resultIsNotThere();
        placeIsNotThere();
        classToldAfterPut();
        placeIsV();
        moreThanTenPlaces();
        newOneOfThreeHundred();

        resultHowManyAndPlaces();
        noSuchPlaceOrQuestion();
        noSuchTypeToAsk();

        takenByPlaces();
        takenByHowManyPlaces();
        takenByResults();
        takenByForcing();
        takenOfNoSuchTypes();
        DUE.end();
    }

    private static void numberedAsFirstMade() {
        DUE.sentence("Terms 2", "TYPES are numbered from 0 on as they are first made");
        Calls x = new Calls(DUE);
        x.makes(0, 5, 6, 7);
        x.makes(NONE, 40);
        x.makes(1, 0);
        x.makes(0, 5, 6, 7);
        x.makes(NONE, 5, 0);
        x.changed(0, 5, 0, 0, NONE);
        x.changed(0, 1, 1, 1, 2);
        x.makes(2, 5, 6);
        x.makes(3, 5, 7);
        x.makes(1, 0);
    }

    private static void threeHundredAtMost() {
        DUE.sentence("Terms 2", "300 at most");
        Calls x = new Calls(DUE).withTypes(300);
        x.about(299, 9, 1, 1, 1, 1, 1, 1, 1, 1, 1, 2);
        x.about(0, 0, 1);
        x.typeAbout(300, -2, NONE);
        x.makes(NONE, 10, 2);
        x.typeAbout(300, -2, NONE);
        x.typeAbout(300, -1, NONE);
        x.mayBe(300, 300, true, false);
        x.mayBe(299, 299, false, true);
        x.about(299, 9, 1, 1, 1, 1, 1, 1, 1, 1, 1, 2);
    }

    private static void zeroToTenPlaces() {
        DUE.sentence("Terms 2", "0 to 10 PLACES, kinds but V, numbered from 0 on");
        Calls x = new Calls(DUE).withAllClasses();
        for (int many = 0; many <= 10; many++) {
            int[] places = new int[many];
            for (int k = 0; k < many; k++) {
                places[k] = 31 - k;
            }
            x.makes(many, 31, places);
            x.about(many, 31, places);
        }
    }

    private static void equalOnesAreOne() {
        DUE.sentence("Terms 2", "Equal ones are one");
        Calls x = new Calls(DUE);
        x.makes(0, 5, 6, 7);
        x.makes(1, 5, 7, 6);
        x.makes(2, 6, 6, 7);
        x.makes(3, 5, 6);
        x.makes(4, 5, 6, 7, 7);
        x.makes(5, 0);
        x.makes(6, 5, 1, 2, 3, 4, 5, 6, 7, 8, 9, 10);
        x.makes(0, 5, 6, 7);
        x.makes(1, 5, 7, 6);
        x.makes(2, 6, 6, 7);
        x.makes(3, 5, 6);
        x.makes(4, 5, 6, 7, 7);
        x.makes(5, 0);
        x.makes(6, 5, 1, 2, 3, 4, 5, 6, 7, 8, 9, 10);
        x.changed(3, 1, 0, 3, 7);
        x.makes(7, 5, 6, 6);
    }

    private static void differentOnesAreApart() {
        DUE.sentence("Terms 2", "each has a RESULT's kind and 0 to 10 PLACES");
        Calls x = new Calls(DUE).withAllClasses();
        for (int place = 0; place < 10; place++) {
            int[] places = Calls.same(10, 31);
            places[place] = 30;
            x.makes(place, 31, places);
            x.about(place, 31, places);
        }
        x.makes(10, 30, 31, 31, 31, 31, 31, 31, 31, 31, 31, 30);
        x.makes(11, 31, 31, 31, 31, 31, 31, 31, 31, 31, 31);
    }

    private static void putUpToTwenty() {
        DUE.sentence("Promise 9", "20 at most; false, refused, when there are 20");
        Calls x = new Calls(DUE);
        for (int round = 0; round < 2; round++) {
            for (int i = 0; i < 20; i++) {
                x.put(5, true);
            }
            x.put(5, false);
            x.put(0, false);
            x.put(40, false);
            x.type(5, NONE);
        }
        x.makes(0, 5, 6);
        x.about(0, 5, 6);
    }

    private static void putTakesAnyKind() {
        DUE.sentence("Promise 9", "One more kind comes to the row");
        Calls x = new Calls(DUE);
        x.put(6, true);
        x.put(7, true);
        x.put(6, true);
        x.type(5, 0);
        x.about(0, 5, 6, 7, 6);
        for (int kind : NOT_THERE) {
            x.put(kind, true);
        }
        x.type(5, NONE);
    }

    private static void rowIsEmptyThen() {
        DUE.sentence("Promise 10", "the row its PLACES (empty then");
        Calls x = new Calls(DUE);
        x.makes(0, 5, 5, 6);
        x.type(5, 1);
        x.about(1, 5);
        // Also when the TYPE is an old one.
        x.makes(0, 5, 5, 6);
        x.type(5, 1);
        x.makes(2, 5, 6);
        x.about(2, 5, 6);
        x.makes(3, 5, 1, 2, 3, 4, 5, 6, 7, 8, 9, 10);
        x.type(5, 1);
    }

    private static void rowIsEmptyWhenRefused() {
        DUE.sentence("Promise 10", "also when it is refused)");
        Calls x = new Calls(DUE);
        x.makes(0, 5);
        x.makes(NONE, 40, 5, 6);
        x.type(5, 0);
        x.makes(NONE, 5, 6, 40);
        x.type(5, 0);
        x.makes(NONE, 5, 40, 6);
        x.type(5, 0);
        x.makes(NONE, 5, 6, 0);
        x.type(5, 0);
        x.makes(NONE, 5, 0, 6);
        x.type(5, 0);
        x.makes(NONE, 5, ELEVEN);
        x.type(5, 0);
        x.makes(1, 5, 7);
        x.about(1, 5, 7);
        Calls full = new Calls(DUE).withTypes(300);
        full.makes(NONE, 10, 2);
        full.makes(5, 5, 1);
    }

    private static void resultIsNotThere() {
        DUE.sentence("Promise 10", "NONE, refused, when a kind isn't there", "the RESULT");
        Calls x = new Calls(DUE);
        for (int result : NOT_THERE) {
            x.makes(NONE, result);
            x.makes(NONE, result, 5);
        }
        x.typeAbout(0, -1, NONE);
        x.newClass(7, 20);
        x.makes(0, 20);
        x.makes(NONE, 21);
        x.makes(1, 0);
        x.makes(2, 19);
    }

    private static void placeIsNotThere() {
        DUE.sentence("Promise 10", "NONE, refused, when a kind isn't there", "a PLACE");
        Calls x = new Calls(DUE);
        for (int kind : NOT_THERE) {
            x.makes(NONE, 5, kind);
            x.makes(NONE, 5, kind, 1, 2, 3);
            x.makes(NONE, 5, 1, 2, 3, kind);
            x.makes(NONE, 5, 1, 2, 3, 4, 5, 6, 7, 8, 9, kind);
        }
        x.typeAbout(0, -1, NONE);
        x.newClass(7, 20);
        x.makes(0, 5, 20);
        x.makes(NONE, 5, 21);
        x.makes(NONE, 5, 20, 21);
        x.makes(1, 5, 19);
    }

    private static void classToldAfterPut() {
        DUE.sentence("Promise 10", "when a kind isn't there", "then, not when it was put");
        Calls x = new Calls(DUE);
        x.put(20, true);
        x.newClass(7, 20);
        x.type(20, 0);
        x.about(0, 20, 20);
    }

    private static void placeIsV() {
        DUE.sentence("Promise 10", "a PLACE is V");
        Calls x = new Calls(DUE);
        x.makes(NONE, 5, 0);
        x.makes(NONE, 0, 0);
        x.makes(NONE, 0, 5, 0);
        x.makes(NONE, 0, 0, 5);
        x.makes(NONE, 5, 1, 2, 0, 4);
        x.makes(NONE, 5, 1, 2, 3, 4, 5, 6, 7, 8, 9, 0);
        x.typeAbout(0, -1, NONE);
        // V as a RESULT is none of these.
        x.makes(0, 0, 5);
    }

    private static void moreThanTenPlaces() {
        DUE.sentence("Promise 10", "there are more than 10");
        Calls x = new Calls(DUE);
        for (int many = 9; many <= 20; many++) {
            x.makes(many <= 10 ? many - 9 : NONE, 5, Calls.same(many, 5));
        }
        x.typeAbout(0, -2, 9);
        x.typeAbout(1, -2, 10);
        x.typeAbout(2, -2, NONE);
    }

    private static void newOneOfThreeHundred() {
        DUE.sentence("Promise 10", "or it is a new one and there are 300");
        Calls x = new Calls(DUE).withTypes(299);
        x.makes(299, 10, 2);
        x.about(299, 10, 2);
        x.makes(NONE, 11, 2);
        x.makes(NONE, 5);
        x.makes(NONE, 5, 1, 1, 1, 1, 1, 1, 1, 1, 1, 3);
        // Old ones are answered.
        x.makes(299, 10, 2);
        x.makes(0, 0, 1);
        x.makes(298, 8, 1, 1, 1, 1, 1, 1, 1, 1, 1, 2);
        x.makes(NONE, 11, 2);
    }

    private static void resultHowManyAndPlaces() {
        DUE.sentence("Promise 11", "A TYPE's RESULT (what -1), how many PLACES it has (-2), PLACE k (what k)");
        Calls x = new Calls(DUE).withAllClasses();
        x.makes(0, 31, 1, 6, 7, 8, 14, 17, 19, 20, 30, 31);
        x.makes(1, 0);
        x.makes(2, 0, 31);
        x.about(0, 31, 1, 6, 7, 8, 14, 17, 19, 20, 30, 31);
        x.about(1, 0);
        x.about(2, 0, 31);
    }

    private static void noSuchPlaceOrQuestion() {
        DUE.sentence("Promise 11", "NONE when there is none such", "what");
        Calls x = new Calls(DUE);
        x.makes(0, 5, 6, 7);
        x.makes(1, 5);
        x.makes(2, 5, 1, 2, 3, 4, 5, 6, 7, 8, 9, 10);
        for (int what : new int[] {10, 11, 12, 13, 31, 32, 64, -3, -4, Integer.MIN_VALUE, Integer.MAX_VALUE}) {
            x.typeAbout(0, what, NONE);
            x.typeAbout(1, what, NONE);
            x.typeAbout(2, what, NONE);
        }
        for (int what = 0; what < 10; what++) {
            x.typeAbout(0, what, what < 2 ? 6 + what : NONE);
            x.typeAbout(1, what, NONE);
            x.typeAbout(2, what, what + 1);
        }
    }

    private static void noSuchTypeToAsk() {
        DUE.sentence("Promise 11", "NONE when there is none such", "TYPE");
        Calls x = new Calls(DUE);
        x.makes(0, 5, 6, 7);
        for (int what = -3; what < 3; what++) {
            x.typeAbout(1, what, NONE);
            x.typeAbout(299, what, NONE);
            for (int type : Calls.NEVER_TYPES) {
                x.typeAbout(type, what, NONE);
            }
        }
        x.makes(1, 0, 6);
        x.about(1, 0, 6);
        x.typeAbout(2, -1, NONE);
    }

    private static void takenByPlaces() {
        DUE.sentence("Terms 3", "each of u's MAY be passed as t's");
        Calls x = new Calls(DUE);
        x.makes(0, 0, 6, 7);
        x.makes(1, 0, 2, 13);
        x.makes(2, 0, 4, 13);
        x.makes(3, 0, 1, 18);
        taken(x, 0, 1, true, true);
        taken(x, 1, 0, false, true);
        taken(x, 1, 2, false, true);
        taken(x, 0, 2, true, true);
        taken(x, 0, 3, false, true);
        for (int t = 0; t < 4; t++) {
            taken(x, t, t, true, true);
        }
        x.makes(4, 0, 18);
        x.makes(5, 0, 5);
        taken(x, 4, 5, false, false);
        taken(x, 5, 4, false, false);
        // Only the first PLACE, or the last of ten, is in the way.
        x.makes(6, 0, 5, 5, 5, 5, 5, 5, 5, 5, 5, 5);
        x.makes(7, 0, 5, 5, 5, 5, 5, 5, 5, 5, 5, 6);
        x.makes(8, 0, 6, 5, 5, 5, 5, 5, 5, 5, 5, 5);
        taken(x, 6, 7, false, true);
        taken(x, 7, 6, true, true);
        taken(x, 6, 8, false, true);
        taken(x, 8, 6, true, true);
        taken(x, 7, 8, false, true);
    }

    private static void takenByHowManyPlaces() {
        DUE.sentence("Terms 3", "TYPE t MAY be taken as u if they have as many PLACES");
        Calls x = new Calls(DUE);
        for (int many = 0; many <= 10; many++) {
            x.makes(many, 7, Calls.same(many, 7));
        }
        for (int t = 0; t <= 10; t++) {
            for (int u = 0; u <= 10; u++) {
                taken(x, t, u, t == u, t == u);
            }
        }
    }

    private static void takenByResults() {
        DUE.sentence("Terms 3", "and t's RESULT as u's, as RESULTS");
        Calls x = new Calls(DUE);
        int[] results = {0, 2, 5, 7, 18, 12};
        for (int i = 0; i < results.length; i++) {
            x.makes(i, results[i]);
        }
        taken(x, 1, 2, true, true);
        taken(x, 2, 1, false, true);
        for (int i = 0; i < results.length; i++) {
            taken(x, 0, i, true, true);
            taken(x, i, 0, true, true);
        }
        taken(x, 2, 3, true, true);
        taken(x, 3, 2, true, true);
        taken(x, 4, 2, false, false);
        taken(x, 2, 4, false, false);
        taken(x, 5, 1, false, true);
        taken(x, 5, 2, true, true);
    }

    private static void takenByForcing() {
        DUE.sentence("Terms 3", "(all by forcing, if so asked)");
        Calls x = new Calls(DUE);
        x.makes(0, 5, 5, 5);
        x.makes(1, 2, 5, 5);
        x.makes(2, 5, 6, 5);
        x.makes(3, 5, 5, 6);
        x.makes(4, 2, 6, 6);
        x.makes(5, 18, 6, 6);
        x.makes(6, 2, 6, 18);
        for (int u = 1; u <= 4; u++) {
            taken(x, 0, u, false, true);
        }
        taken(x, 0, 5, false, false);
        taken(x, 0, 6, false, false);
    }

    private static void takenOfNoSuchTypes() {
        DUE.sentence("Promise 12", "False when there are no such TYPES");
        Calls none = new Calls(DUE);
        taken(none, 0, 0, false, false);
        Calls x = new Calls(DUE);
        x.makes(0, 5);
        for (int type : Calls.NEVER_TYPES) {
            taken(x, type, 0, false, false);
            taken(x, 0, type, false, false);
            taken(x, type, type, false, false);
        }
        taken(x, 0, 1, false, false);
        taken(x, 1, 0, false, false);
        taken(x, 1, 1, false, false);
        taken(x, 299, 299, false, false);
        x.makes(1, 5, 5);
        taken(x, 1, 1, true, true);
        taken(x, 2, 2, false, false);
    }

    private static void taken(Calls x, int t, int u, boolean plainly, boolean forced) {
        x.mayBe(t, u, false, plainly);
        x.mayBe(t, u, true, forced);
    }
}
