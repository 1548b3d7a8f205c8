import java.lang.reflect.Constructor;
import java.lang.reflect.Field;
import java.lang.reflect.Method;
import java.lang.reflect.Modifier;
import java.util.Arrays;
import java.util.TreeSet;

/** The public face: all that stands in the document, and nothing else that can be seen from outside. */
public final class FaceTests {
    private static final String[] METHODS = {
        "public boolean KindJudge.put(long,int)",
        "public int KindJudge.load() throws java.lang.IllegalArgumentException",
        "public int KindJudge.fault(int)",
        "public int KindJudge.kind(int,int,int)",
        "public int KindJudge.look(int,int,int) throws java.util.NoSuchElementException",
        "public int KindJudge.ways(int,int)",
        "public int KindJudge.count(int,int)",
        "public int KindJudge.fits(int,int)",
        "public int KindJudge.meet(int,int)",
        "public int KindJudge.method(int,int)",
        "public int KindJudge.type(int,int)",
        "public int KindJudge.total(int)"};

    private static void same(String what, TreeSet<String> got, String... want) {
        TreeSet<String> due = new TreeSet<>(Arrays.asList(want));
        Check.due(what + " " + got + ", due is " + due, got.equals(due), true);
    }

    private static void face() {
        TreeSet<String> methods = new TreeSet<>();
        for (Method method : KindJudge.class.getDeclaredMethods()) {
            if (!Modifier.isPrivate(method.getModifiers())) {
                methods.add(method.toString());
            }
        }
        same("methods", methods, METHODS);
        TreeSet<String> fields = new TreeSet<>();
        for (Field field : KindJudge.class.getDeclaredFields()) {
            if (!Modifier.isPrivate(field.getModifiers())) {
                fields.add(field.toString());
            }
        }
        same("fields", fields, "public static final int KindJudge.NONE");
        TreeSet<String> constructors = new TreeSet<>();
        for (Constructor<?> constructor : KindJudge.class.getDeclaredConstructors()) {
            constructors.add(constructor.toString());
        }
        same("constructors", constructors, "public KindJudge()");
        Check.due("final", Modifier.isFinal(KindJudge.class.getModifiers()), true);
    }

    /** Rules 1, 5 and 11 of LANGUAGE.md, as far as they can be seen in what is compiled. */
    private static void inside() {
        TreeSet<String> names = new TreeSet<>();
        for (String method : METHODS) {
            names.add(method.substring(method.indexOf("KindJudge.") + 10, method.indexOf('(')));
        }
        Class<?>[] classes = KindJudge.class.getDeclaredClasses();
        Check.due("at most twelve classes", classes.length < 12, true);
        for (Class<?> inner : classes) {
            int modifiers = inner.getModifiers();
            boolean hidden = !Modifier.isPublic(modifiers) && !Modifier.isProtected(modifiers);
            Check.due(inner + " is hidden and static", hidden && Modifier.isStatic(modifiers), true);
            for (Method method : inner.getDeclaredMethods()) {
                Check.due(method + " bears a name of the face", names.contains(method.getName()), false);
                Check.due(method + " has at most seven parameters", method.getParameterCount() <= 7, true);
            }
            int fields = 0;
            for (Field field : inner.getDeclaredFields()) {
                if (Modifier.isStatic(field.getModifiers())) {
                    Check.due(field + " is final", Modifier.isFinal(field.getModifiers()), true);
                } else {
                    fields++;
                }
            }
            Check.due(inner + " has at most twenty fields", fields <= 20, true);
        }
        for (Method method : KindJudge.class.getDeclaredMethods()) {
            boolean twice = Modifier.isPrivate(method.getModifiers()) && names.contains(method.getName());
            Check.due(method + " bears a name of the face", twice, false);
        }
    }

    public static void main(String[] args) {
        face();
        inside();
        Check.end();
    }
}
