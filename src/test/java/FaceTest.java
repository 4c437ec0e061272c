import java.lang.reflect.Constructor;
import java.lang.reflect.Field;
import java.lang.reflect.Member;
import java.lang.reflect.Method;
import java.lang.reflect.Modifier;
import java.util.HashSet;
import java.util.Set;
import java.util.TreeSet;

/** The public face is the document's and no more, no call throws, and what reflection sees of LANGUAGE.md holds. */
public final class FaceTest {
    private static final Due DUE = new Due();
    private static final String FACE = String.join("\n", new TreeSet<>(Set.of(
            "public static final int KindTable.NONE",
            "public KindTable()",
            "public int KindTable.newClass(int)",
            "public boolean KindTable.below(int,int)",
            "public int KindTable.meet(int,int)",
            "public boolean KindTable.may(int,int,boolean,boolean)",
            "public int KindTable.pass(int,int,boolean,int,long)",
            "public int KindTable.kind()",
            "public long KindTable.number()",
            "public boolean KindTable.put(int)",
            "public int KindTable.type(int)",
            "public int KindTable.typeAbout(int,int)",
            "public boolean KindTable.mayBe(int,int,boolean)",
            "public int KindTable.changed(int,int,int,int)")));
    private static final int[] TOLD = {Integer.MIN_VALUE, -32, -3, -2, -1, 0, 1, 5, 6, 7, 8, 9, 14, 19, 20, 31, 32, 299,
        300, Integer.MAX_VALUE};

    public static void main(String[] args) {
        face();
        privateNames();
        staticFields();
        fewFieldsAndParameters();
        noCallThrows(new KindTable());
        noCallThrows(fullTable());
        DUE.end();
    }

    private static void face() {
        Set<String> seen = new TreeSet<>();
        for (Field field : KindTable.class.getDeclaredFields()) {
            addUnlessPrivate(seen, field, field.toString());
        }
        for (Constructor<?> made : KindTable.class.getDeclaredConstructors()) {
            addUnlessPrivate(seen, made, made.toString());
        }
        for (Method method : KindTable.class.getDeclaredMethods()) {
            addUnlessPrivate(seen, method, method.toString());
        }
        DUE.same("the face", String.join("\n", seen), FACE);
        int modifiers = KindTable.class.getModifiers();
        DUE.same("public and final", Modifier.isPublic(modifiers) && Modifier.isFinal(modifiers), true);
    }

    private static void addUnlessPrivate(Set<String> seen, Member member, String text) {
        if (!Modifier.isPrivate(member.getModifiers())) {
            seen.add(text);
        }
    }

    private static void privateNames() {
        Set<String> open = new HashSet<>();
        for (Method method : KindTable.class.getMethods()) {
            open.add(method.getName());
        }
        for (Method method : KindTable.class.getDeclaredMethods()) {
            boolean shared = Modifier.isPrivate(method.getModifiers()) && open.contains(method.getName());
            DUE.same("private " + method.getName() + " bears a public name", shared, false);
        }
    }

    /** Rule 5; arrays written out in their initialiser would be fine too, but the class has none. */
    private static void staticFields() {
        Set<Class<?>> constants = Set.of(int.class, long.class, boolean.class, char.class, String.class);
        for (Field field : KindTable.class.getDeclaredFields()) {
            if (Modifier.isStatic(field.getModifiers())) {
                boolean constant = Modifier.isFinal(field.getModifiers()) && constants.contains(field.getType());
                DUE.same("static " + field.getName() + " is a constant", constant, true);
            }
        }
    }

    /** Rule 11. */
    private static void fewFieldsAndParameters() {
        int fields = 0;
        for (Field field : KindTable.class.getDeclaredFields()) {
            fields += Modifier.isStatic(field.getModifiers()) ? 0 : 1;
        }
        DUE.same("at most twenty fields beside constants", fields <= 20, true);
        for (Method method : KindTable.class.getDeclaredMethods()) {
            DUE.same(method.getName() + " has at most seven parameters", method.getParameterCount() <= 7, true);
        }
    }

    private static void noCallThrows(KindTable x) {
        for (int a : TOLD) {
            for (int b : TOLD) {
                x.below(a, b);
                x.meet(a, b);
                x.typeAbout(a, b);
                for (boolean flag : new boolean[] {false, true}) {
                    x.may(a, b, flag, !flag);
                    x.may(a, b, flag, flag);
                    x.mayBe(a, b, flag);
                    for (int c : TOLD) {
                        x.pass(a, b, flag, c, Long.MIN_VALUE);
                        x.pass(a, b, flag, c, 1);
                    }
                }
                for (int c : TOLD) {
                    x.changed(0, a, b, c);
                    x.changed(c, a, b, 0);
                }
            }
            x.newClass(a);
            x.put(a);
            x.type(a);
        }
        for (int i = 0; i < 40; i++) {
            x.put(i);
            x.newClass(7);
        }
        x.type(5);
    }

    private static KindTable fullTable() {
        KindTable x = new KindTable();
        for (int i = 0; i < 12; i++) {
            x.newClass(7);
        }
        for (int i = 0; i < 400; i++) {
            x.put(1 + i % 31);
            x.put(1 + i / 31);
            x.type(31);
        }
        for (int i = 0; i < 20; i++) {
            x.put(31);
        }
        return x;
    }
}
