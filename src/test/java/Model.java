import java.util.ArrayList;
import java.util.HashMap;
import java.util.List;
import java.util.Map;

/**
 * The document once more, held in another way than in the class: kinds by their letters, BELOW by chains of
 * parents, numbers by their bounds, TYPES as lists. Slow and plain, to compare the class with.
 */
final class Model {
    private static final String PLAIN_LETTERS = "?ZBSCIJ";
    private static final Map<String, String> WIDER = Map.of("Z", "Z", "B", "BSIJ", "S", "SIJ", "C", "CIJ", "I", "IJ",
            "J", "J");

    private final Map<Integer, Integer> parents = new HashMap<>();
    private final List<Integer> row = new ArrayList<>();
    private final List<List<Integer>> types = new ArrayList<>();
    private int classes = 0;
    private int lastKind = 0;
    private long lastNumber = 0;

    Model() {
        for (int k = 8; k < 20; k++) {
            parents.put(k, 7);
        }
        for (int box : List.of(10, 11, 13, 14)) {
            parents.put(box, 8);
        }
    }

    int newClass(int parent) {
        boolean good = parent == 7 || parent == 19 || parent >= 20 && parent < 20 + classes;
        if (classes == 12 || !good) {
            return -1;
        }
        parents.put(20 + classes, parent);
        return 20 + classes++;
    }

    boolean below(int a, int b) {
        return there(a) && there(b) && chain(a).contains(b);
    }

    int meet(int a, int b) {
        if (!there(a) || !there(b)) {
            return -1;
        }
        List<Integer> common = new ArrayList<>(chain(a));
        common.retainAll(chain(b));
        for (int least : common) {
            if (chain(least).containsAll(common)) {
                return least;
            }
        }
        return -1;
    }

    boolean may(int a, int b, boolean forced, boolean end) {
        if (!there(a) || !there(b)) {
            return false;
        }
        if (a == 0 || b == 0) {
            return end;
        }
        if (a == b) {
            return true;
        }
        boolean fromPlain = a <= 6;
        boolean toPlain = b <= 6;
        if (fromPlain && toPlain) {
            return forced || widens(a, b);
        }
        if (fromPlain) {
            return chain(a + 8).contains(b);
        }
        if (!toPlain) {
            return true;
        }
        if (forced) {
            return a <= 14;
        }
        return a == 7 || a == 8 && "BSIJ".contains(letter(b)) || box(a) && widens(a - 8, b);
    }

    int pass(int a, int b, boolean forced, int kind, long number) {
        if (!may(a, b, forced, false)) {
            return -1;
        }
        if (a <= 6) {
            if (!within(a, number)) {
                return -1;
            }
            return b <= 6 ? came(0, forced ? force(b, number) : number) : came(a + 8, number);
        }
        if (kind != 0) {
            boolean object = there(kind) && kind >= 9 && chain(kind).contains(a);
            if (!object || box(kind) && !within(kind - 8, number)) {
                return -1;
            }
        }
        if (b > 6) {
            if (kind == 0) {
                return came(0, 0);
            }
            return chain(kind).contains(b) ? came(kind, number) : 2;
        }
        if (kind == 0) {
            return forced ? came(0, 0) : 1;
        }
        if (!box(kind)) {
            return 2;
        }
        if (forced) {
            return came(0, force(b, number));
        }
        return widens(kind - 8, b) ? came(0, number) : 2;
    }

    int kind() {
        return lastKind;
    }

    long number() {
        return lastNumber;
    }

    boolean put(int kind) {
        return row.size() < 20 && row.add(kind);
    }

    int type(int result) {
        List<Integer> made = new ArrayList<>(List.of(result));
        made.addAll(row);
        row.clear();
        for (int kind : made) {
            if (!there(kind)) {
                return -1;
            }
        }
        return made.subList(1, made.size()).contains(0) ? -1 : numberOf(made);
    }

    int typeAbout(int type, int what) {
        if (!typed(type)) {
            return -1;
        }
        List<Integer> told = types.get(type);
        if (what == -2) {
            return told.size() - 1;
        }
        return what >= -1 && what < told.size() - 1 ? told.get(what + 1) : -1;
    }

    boolean mayBe(int t, int u, boolean forced) {
        if (!typed(t) || !typed(u) || types.get(t).size() != types.get(u).size()) {
            return false;
        }
        boolean good = may(types.get(t).get(0), types.get(u).get(0), forced, true);
        for (int i = 1; i < types.get(t).size(); i++) {
            good &= may(types.get(u).get(i), types.get(t).get(i), forced, false);
        }
        return good;
    }

    int changed(int t, int from, int many, int u) {
        if (!typed(t) || !typed(u)) {
            return -1;
        }
        List<Integer> made = new ArrayList<>(types.get(t));
        if (from < 0 || many < 0 || (long) from + many > made.size() - 1) {
            return -1;
        }
        made.subList(from + 1, from + 1 + many).clear();
        List<Integer> other = types.get(u);
        made.addAll(from + 1, new ArrayList<>(other.subList(1, other.size())));
        return numberOf(made);
    }

    int typeCount() {
        return types.size();
    }

    private int numberOf(List<Integer> made) {
        if (made.size() > 11) {
            return -1;
        }
        if (!types.contains(made)) {
            if (types.size() == 300) {
                return -1;
            }
            types.add(made);
        }
        return types.indexOf(made);
    }

    private int came(int kind, long number) {
        lastKind = kind;
        lastNumber = number;
        return 0;
    }

    private boolean there(int k) {
        return k >= 0 && k < 20 + classes;
    }

    private boolean typed(int t) {
        return t >= 0 && t < types.size();
    }

    private List<Integer> chain(int k) {
        List<Integer> found = new ArrayList<>();
        for (Integer up = k; up != null; up = parents.get(up)) {
            found.add(up);
        }
        return found;
    }

    private static boolean box(int k) {
        return k >= 9 && k <= 14;
    }

    private static String letter(int plain) {
        return PLAIN_LETTERS.substring(plain, plain + 1);
    }

    private static boolean widens(int a, int b) {
        return WIDER.get(letter(a)).contains(letter(b));
    }

    private static int bits(int plain) {
        return List.of(0, 1, 8, 16, 16, 32, 64).get(plain);
    }

    private static boolean signed(int plain) {
        return plain != 1 && plain != 4;
    }

    private static boolean within(int plain, long number) {
        if (plain == 6) {
            return true;
        }
        long size = 1L << bits(plain);
        long low = signed(plain) ? -size / 2 : 0;
        return number >= low && number < low + size;
    }

    private static long force(int plain, long number) {
        if (plain == 6) {
            return number;
        }
        long size = 1L << bits(plain);
        long rest = Math.floorMod(number, size);
        return signed(plain) && rest >= size / 2 ? rest - size : rest;
    }
}
