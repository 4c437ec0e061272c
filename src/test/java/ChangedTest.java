/** Promise 13: changed. */
public final class ChangedTest {
    private static final Due DUE = new Due();
    private static final int NONE = KindTable.NONE;

    public static void main(String[] args) {
        placesInTheirStead();
        oldTypesAreAnswered();
        rowStays();
        noSuchTypes();
        noSuchPlaces();
        noSuchPlacesByWrapAround();
        noPlacesTakenOut();
        moreThanTenPlaces();
        newOneOfThreeHundred();
        oldOneOfThreeHundred();
        DUE.end();
    }

    private static void placesInTheirStead() {
        DUE.sentence("Promise 13", "The TYPE t with its PLACES from one on (from, many of them) taken out, "
                + "and those of TYPE u in their stead");
        Calls x = three();
        changes(x, 0, 0, 1, 1, 3, 5, 18, 19, 2, 3);
        changes(x, 0, 1, 1, 1, 4, 5, 1, 18, 19, 3);
        changes(x, 0, 2, 1, 1, 5, 5, 1, 2, 18, 19);
        changes(x, 0, 0, 3, 1, 6, 5, 18, 19);
        changes(x, 0, 1, 2, 1, 7, 5, 1, 18, 19);
        changes(x, 0, 0, 3, 2, 8, 5);
        changes(x, 0, 1, 1, 2, 9, 5, 1, 3);
        changes(x, 0, 1, 1, 0, 10, 5, 1, 1, 2, 3, 3);
        changes(x, 1, 0, 2, 0, 11, 6, 1, 2, 3);
        x.about(0, 5, 1, 2, 3);
        x.about(1, 6, 18, 19);
        x.about(2, 0);
    }

    private static void oldTypesAreAnswered() {
        DUE.sentence("Promise 13", "its number");
        Calls x = three();
        x.changed(0, 0, 0, 2, 0);
        x.changed(0, 0, 3, 0, 0);
        x.changed(2, 0, 0, 2, 2);
        x.changed(0, 1, 1, 1, 3);
        x.changed(0, 1, 1, 1, 3);
        x.makes(3, 5, 1, 18, 19, 3);
        x.makes(4, 5, 9);
    }

    private static void rowStays() {
        DUE.sentence("Promise 13", "its number", "and the row as it was");
        Calls x = three();
        x.putAll(18, 19, 18);
        x.changed(0, 0, 1, 0, 3);
        x.changed(0, 9, 1, 0, NONE);
        x.type(6, 4);
        x.about(4, 6, 18, 19, 18);
    }

    private static void noSuchTypes() {
        DUE.sentence("Promise 13", "NONE, refused, when there are no such TYPES");
        Calls x = three();
        for (int type : Calls.NEVER_TYPES) {
            x.changed(type, 0, 0, 0, NONE);
            x.changed(0, 0, 0, type, NONE);
            x.changed(type, 0, 0, type, NONE);
        }
        x.changed(3, 0, 0, 0, NONE);
        x.changed(0, 0, 0, 3, NONE);
        x.changed(299, 0, 0, 299, NONE);
        noneWasMade(x);
        x.changed(4, 0, 0, 0, NONE);
        x.changed(3, 0, 1, 2, 4);
    }

    private static void noSuchPlaces() {
        DUE.sentence("Promise 13", "or PLACES");
        Calls x = three();
        int[][] rows = {{-1, 0}, {-1, 1}, {-1, 2}, {-1, 4}, {-2, 3}, {0, -1}, {1, -1}, {4, -1}, {5, -2}, {3, -3},
            {4, 0}, {3, 1}, {2, 2}, {1, 3}, {0, 4}, {5, 0}, {9, 1}, {10, 0}, {11, 0}, {0, 10}, {0, 11}, {-31, 32}};
        for (int[] r : rows) {
            x.changed(0, r[0], r[1], 1, NONE);
            x.changed(0, r[0], r[1], 2, NONE);
        }
        for (int[] r : new int[][] {{0, 1}, {1, 0}, {-1, 0}, {-1, 1}, {0, -1}, {1, -1}}) {
            x.changed(2, r[0], r[1], 1, NONE);
        }
        noneWasMade(x);
    }

    private static void noSuchPlacesByWrapAround() {
        DUE.sentence("Promise 13", "or PLACES", "far off, their sum too");
        Calls x = three();
        int[] far = {Integer.MIN_VALUE, Integer.MIN_VALUE + 1, Integer.MIN_VALUE + 3, -1, Integer.MAX_VALUE - 1,
            Integer.MAX_VALUE};
        for (int from : far) {
            for (int many : new int[] {0, 1, 3}) {
                x.changed(0, from, many, 2, NONE);
                x.changed(0, many, from, 2, NONE);
            }
            for (int many : far) {
                x.changed(0, from, many, 2, NONE);
            }
        }
        noneWasMade(x);
    }

    private static void noPlacesTakenOut() {
        DUE.sentence("Promise 13", "from one on (from, many of them)", "none of them");
        Calls x = three();
        changes(x, 0, 0, 0, 1, 3, 5, 18, 19, 1, 2, 3);
        changes(x, 0, 1, 0, 1, 4, 5, 1, 18, 19, 2, 3);
        changes(x, 0, 3, 0, 1, 5, 5, 1, 2, 3, 18, 19);
        changes(x, 2, 0, 0, 1, 6, 0, 18, 19);
        x.changed(0, 4, 0, 1, NONE);
        x.changed(2, 1, 0, 1, NONE);
    }

    private static void moreThanTenPlaces() {
        DUE.sentence("Promise 13", "it would have more than 10");
        Calls x = new Calls(DUE).withAllClasses();
        x.makes(0, 31, 21, 22, 23, 24, 25, 26);
        x.makes(1, 30, 27, 28, 29, 30);
        changes(x, 0, 6, 0, 1, 2, 31, 21, 22, 23, 24, 25, 26, 27, 28, 29, 30);
        changes(x, 0, 0, 0, 1, 3, 31, 27, 28, 29, 30, 21, 22, 23, 24, 25, 26);
        x.changed(2, 0, 3, 1, NONE);
        x.changed(2, 7, 3, 1, NONE);
        x.changed(0, 0, 0, 0, NONE);
        x.changed(2, 10, 0, 0, NONE);
        x.changed(2, 0, 0, 2, NONE);
        x.changed(2, 0, 9, 2, NONE);
        changes(x, 2, 6, 4, 1, 2, 31, 21, 22, 23, 24, 25, 26, 27, 28, 29, 30);
        changes(x, 2, 0, 10, 2, 2, 31, 21, 22, 23, 24, 25, 26, 27, 28, 29, 30);
        x.changed(1, 0, 4, 2, 4);
        x.about(4, 30, 21, 22, 23, 24, 25, 26, 27, 28, 29, 30);
        x.typeAbout(5, -1, NONE);
    }

    private static void newOneOfThreeHundred() {
        DUE.sentence("Promise 13", "or it is a new one and there are 300");
        Calls x = new Calls(DUE).withTypes(299);
        x.changed(20, 1, 0, 0, 299);
        x.about(299, 0, 2, 1);
        x.changed(21, 1, 0, 0, NONE);
        x.typeAbout(300, -1, NONE);
        x.changed(21, 1, 0, 0, NONE);
        x.changed(0, 0, 1, 20, 20);
        x.changed(299, 0, 1, 299, NONE);
        x.about(299, 0, 2, 1);
    }

    private static void oldOneOfThreeHundred() {
        DUE.sentence("Promise 13", "or it is a new one and there are 300", "but an old one");
        Calls x = new Calls(DUE).withTypes(300);
        x.changed(5, 0, 0, 0, 35);
        x.changed(269, 0, 0, 0, 299);
        x.changed(299, 0, 10, 299, 299);
        x.changed(30, 0, 1, 0, 30);
        x.changed(0, 0, 1, 270, 270);
    }

    /** Three TYPES, the third without PLACES. */
    private static Calls three() {
        Calls x = new Calls(DUE);
        x.makes(0, 5, 1, 2, 3);
        x.makes(1, 6, 18, 19);
        x.makes(2, 0);
        return x;
    }

    /** Refused calls take no number and leave the three as they were. */
    private static void noneWasMade(Calls x) {
        x.typeAbout(3, -1, NONE);
        x.about(0, 5, 1, 2, 3);
        x.about(1, 6, 18, 19);
        x.about(2, 0);
        x.makes(3, 5, 9);
    }

    private static void changes(Calls x, int t, int from, int many, int u, int want, int result, int... places) {
        x.changed(t, from, many, u, want);
        x.about(want, result, places);
    }
}
