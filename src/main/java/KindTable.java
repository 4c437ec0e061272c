/**
 * Kinds of values, which is below which, what may be passed as what, and types as rows of kinds.
 * The words in capitals are those of the document, DOC.md.
 */
public final class KindTable {
    public static final int NONE = -1;

    private static final int V = 0;
    private static final int Z = 1;
    private static final int B = 2;
    private static final int S = 3;
    private static final int C = 4;
    private static final int I = 5;
    private static final int J = 6;
    private static final int O = 7;
    private static final int N = 8;
    private static final int FIRST_BOX = 9;
    private static final int LAST_BOX = 14;
    private static final int E = 19;
    private static final int FIRST_CLASS = 20;
    private static final int MOST_KINDS = 32;
    /** The BOX of PLAIN kind k is k + TO_BOX. */
    private static final int TO_BOX = 8;

    /** How pass() and kind() tell NULL; no OBJECT is of kind V, so that its number is free for this. */
    private static final int NULL = 0;

    private static final int DONE = 0;
    private static final int ERROR_NULL = 1;
    private static final int ERROR_OTHER_KIND = 2;

    private static final int MOST_IN_ROW = 20;
    private static final int MOST_PLACES = 10;
    private static final int MOST_TYPES = 300;

    private static final int ASK_RESULT = -1;
    private static final int ASK_HOW_MANY = -2;

    // A TYPE is one long, so that equal TYPES are equal numbers and none needs an object of its own:
    // from the lowest bit on its RESULT, how many PLACES it has, and each PLACE. Bits not used are 0.
    private static final int KIND_BITS = 5;
    private static final int KIND_MASK = 31;
    private static final int COUNT_MASK = 15;
    private static final int FIRST_PLACE_BIT = 9;
    private static final long ONE_PLACE_MORE = 1L << KIND_BITS;

    /** For each kind a bit set: bit b is set when the kind is BELOW b. */
    private final int[] above;
    private int kindCount;

    private final int[] row;
    private int rowLength;

    private final long[] types;
    private int typeCount;

    private int passedKind;
    private long passedNumber;

    public KindTable() {
        above = new int[MOST_KINDS];
        for (int k = 0; k < FIRST_CLASS; k++) {
            above[k] = firstAbove(k);
        }
        kindCount = FIRST_CLASS;
        row = new int[MOST_IN_ROW];
        rowLength = 0;
        types = new long[MOST_TYPES];
        typeCount = 0;
        passedKind = NULL;
        passedNumber = 0;
    }

    public int newClass(int parent) {
        if (kindCount >= MOST_KINDS || !mayBeParent(parent)) {
            return NONE;
        }
        int made = kindCount;
        above[made] = above[parent] | 1 << made;
        kindCount++;
        return made;
    }

    public boolean below(int a, int b) {
        return isKind(a) && isKind(b) && isBelow(a, b);
    }

    public int meet(int a, int b) {
        if (!isKind(a) || !isKind(b)) {
            return NONE;
        }
        // What a kind is BELOW is one chain, and what is further up in it has a lower number:
        // so the least of the common ones is the one with the highest number.
        int common = above[a] & above[b];
        for (int k = kindCount - 1; k >= 0; k--) {
            if ((common >>> k & 1) != 0) {
                return k;
            }
        }
        return NONE;
    }

    public boolean may(int a, int b, boolean forced, boolean end) {
        if (!isKind(a) || !isKind(b)) {
            return false;
        }
        if (a == V || b == V) {
            return end;
        }
        return mayPass(a, b, forced);
    }

    public int pass(int a, int b, boolean forced, int kind, long number) {
        if (!may(a, b, forced, false)) {
            return NONE;
        }
        if (isPlain(a)) {
            return fits(a, number) ? passPlain(a, b, number) : NONE;
        }
        if (kind == NULL) {
            return passNull(b, forced);
        }
        if (!isObject(kind, number) || !isBelow(kind, a)) {
            return NONE;
        }
        return isPlain(b) ? passAsPlain(b, forced, kind, number) : passAsReference(b, kind, number);
    }

    public int kind() {
        return passedKind;
    }

    public long number() {
        return passedNumber;
    }

    public boolean put(int kind) {
        if (rowLength >= MOST_IN_ROW) {
            return false;
        }
        row[rowLength] = kind;
        rowLength++;
        return true;
    }

    public int type(int result) {
        int places = rowLength;
        rowLength = 0;
        if (!isKind(result) || places > MOST_PLACES) {
            return NONE;
        }
        long made = result;
        for (int i = 0; i < places; i++) {
            if (!isKind(row[i]) || row[i] == V) {
                return NONE;
            }
            made = withPlace(made, row[i]);
        }
        return numberOf(made);
    }

    public int typeAbout(int type, int what) {
        if (!isType(type)) {
            return NONE;
        }
        long told = types[type];
        if (what == ASK_RESULT) {
            return resultOf(told);
        }
        if (what == ASK_HOW_MANY) {
            return placesOf(told);
        }
        return what >= 0 && what < placesOf(told) ? placeOf(told, what) : NONE;
    }

    public boolean mayBe(int t, int u, boolean forced) {
        if (!isType(t) || !isType(u)) {
            return false;
        }
        long taken = types[t];
        long as = types[u];
        int places = placesOf(taken);
        if (places != placesOf(as) || !may(resultOf(taken), resultOf(as), forced, true)) {
            return false;
        }
        for (int k = 0; k < places; k++) {
            if (!may(placeOf(as, k), placeOf(taken, k), forced, false)) {
                return false;
            }
        }
        return true;
    }

    public int changed(int t, int from, int many, int u) {
        if (!isType(t) || !isType(u)) {
            return NONE;
        }
        long old = types[t];
        long stead = types[u];
        int places = placesOf(old);
        // many is looked at first, so that the difference cannot wrap around.
        if (many < 0 || many > places || from < 0 || from > places - many) {
            return NONE;
        }
        if (places - many + placesOf(stead) > MOST_PLACES) {
            return NONE;
        }
        long made = resultOf(old);
        made = withPlacesOf(made, old, 0, from);
        made = withPlacesOf(made, stead, 0, placesOf(stead));
        made = withPlacesOf(made, old, from + many, places);
        return numberOf(made);
    }

    /** What a kind that is there from the beginning is BELOW, as a bit set. */
    private static int firstAbove(int k) {
        int bits = 1 << k;
        if (k > O) {
            bits |= 1 << O;
        }
        if (isBox(k) && isOfNumbers(k - TO_BOX)) {
            bits |= 1 << N;
        }
        return bits;
    }

    private static boolean isPlain(int k) {
        return k >= Z && k <= J;
    }

    private static boolean isBox(int k) {
        return k >= FIRST_BOX && k <= LAST_BOX;
    }

    /** Whether k is one of the PLAIN kinds whose BOXES are BELOW N. */
    private static boolean isOfNumbers(int k) {
        return k == B || k == S || k == I || k == J;
    }

    private boolean isKind(int k) {
        return k >= 0 && k < kindCount;
    }

    private boolean mayBeParent(int k) {
        return isKind(k) && (k == O || k == E || k >= FIRST_CLASS);
    }

    /** Both must be kinds. */
    private boolean isBelow(int a, int b) {
        return (above[a] >>> b & 1) != 0;
    }

    /** Whether there are OBJECTS of just this kind, with this number. */
    private boolean isObject(int kind, long number) {
        // O and N have no OBJECTS of their own.
        if (!isKind(kind) || kind <= N) {
            return false;
        }
        return !isBox(kind) || fits(kind - TO_BOX, number);
    }

    /** Both must be kinds other than V. */
    private boolean mayPass(int a, int b, boolean forced) {
        if (isPlain(a)) {
            return isPlain(b) ? forced || mayWiden(a, b) : isBelow(a + TO_BOX, b);
        }
        if (!isPlain(b)) {
            return true;
        }
        return forced ? a == O || a == N || isBox(a) : mayUnbox(a, b);
    }

    /** PLAIN to PLAIN without forcing. */
    private static boolean mayWiden(int a, int b) {
        if (a == b) {
            return true;
        }
        switch (a) {
            case B:
                return b == S || b == I || b == J;
            case S:
            case C:
                return b == I || b == J;
            case I:
                return b == J;
            default:
                return false;
        }
    }

    /** REFERENCE to PLAIN without forcing. */
    private static boolean mayUnbox(int a, int b) {
        if (a == O) {
            return true;
        }
        if (a == N) {
            return isOfNumbers(b);
        }
        return isBox(a) && mayWiden(a - TO_BOX, b);
    }

    /** The lowest bits of a number as one of a PLAIN kind. */
    private static long lowest(int plain, long number) {
        switch (plain) {
            case Z:
                return number & 1;
            case B:
                return (byte) number;
            case S:
                return (short) number;
            case C:
                return (char) number;
            case I:
                return (int) number;
            default:
                return number;
        }
    }

    private static boolean fits(int plain, long number) {
        return lowest(plain, number) == number;
    }

    private int passPlain(int a, int b, long number) {
        if (isPlain(b)) {
            // Where it may be passed without forcing, the number fits b and stays what it is.
            return keep(NULL, lowest(b, number));
        }
        return keep(a + TO_BOX, number);
    }

    private int passNull(int b, boolean forced) {
        if (isPlain(b) && !forced) {
            return ERROR_NULL;
        }
        return keep(NULL, 0);
    }

    private int passAsPlain(int b, boolean forced, int kind, long number) {
        if (!isBox(kind) || !forced && !mayWiden(kind - TO_BOX, b)) {
            return ERROR_OTHER_KIND;
        }
        return keep(NULL, lowest(b, number));
    }

    private int passAsReference(int b, int kind, long number) {
        return isBelow(kind, b) ? keep(kind, number) : ERROR_OTHER_KIND;
    }

    private int keep(int kind, long number) {
        passedKind = kind;
        passedNumber = number;
        return DONE;
    }

    private boolean isType(int type) {
        return type >= 0 && type < typeCount;
    }

    private static int resultOf(long type) {
        return (int) (type & KIND_MASK);
    }

    private static int placesOf(long type) {
        return (int) (type >>> KIND_BITS & COUNT_MASK);
    }

    private static int placeOf(long type, int k) {
        return (int) (type >>> placeBit(k) & KIND_MASK);
    }

    private static int placeBit(int k) {
        return FIRST_PLACE_BIT + k * KIND_BITS;
    }

    /** The TYPE with one PLACE more at its end; it must have fewer than the most. */
    private static long withPlace(long type, int kind) {
        return type + ONE_PLACE_MORE | (long) kind << placeBit(placesOf(type));
    }

    /** The TYPE made with the PLACES of another, from one on up to another, at its end. */
    private static long withPlacesOf(long made, long other, int from, int to) {
        long more = made;
        for (int k = from; k < to; k++) {
            more = withPlace(more, placeOf(other, k));
        }
        return more;
    }

    private int numberOf(long type) {
        for (int i = 0; i < typeCount; i++) {
            if (types[i] == type) {
                return i;
            }
        }
        if (typeCount >= MOST_TYPES) {
            return NONE;
        }
        types[typeCount] = type;
        typeCount++;
        return typeCount - 1;
    }
}
