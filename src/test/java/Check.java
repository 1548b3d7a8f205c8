import java.lang.reflect.InvocationTargetException;
import java.lang.reflect.Method;
import java.util.Map;
import java.util.NoSuchElementException;
import java.util.TreeMap;

/** Counts the answers that are not as due, and calls what may throw. */
final class Check {
    static final int THROWN = Integer.MIN_VALUE;

    private static String test = "";
    private static int calls;
    private static int wrong;

    private Check() {
    }

    static void due(String what, long got, long want) {
        calls++;
        if (got != want) {
            wrong++;
            System.out.println(test + what + " answered " + got + ", due is " + want);
        }
    }

    static void due(String what, boolean got, boolean want) {
        due(what, got ? 1 : 0, want ? 1 : 0);
    }

    static int load(KindJudge judge) {
        try {
            return judge.load();
        } catch (IllegalArgumentException e) {
            return THROWN;
        }
    }

    static int look(KindJudge judge, int method, int place, int what) {
        try {
            return judge.look(method, place, what);
        } catch (NoSuchElementException e) {
            return THROWN;
        }
    }

    /** Puts the bytes eight at a time and loads them. */
    static int load(KindJudge judge, byte[] file) {
        put(judge, file);
        return load(judge);
    }

    static void put(KindJudge judge, byte[] file) {
        for (int i = 0; i < file.length; i += 8) {
            int n = Math.min(8, file.length - i);
            long word = 0;
            for (int k = 0; k < n; k++) {
                word = word << 8 | file[i + k] & 255;
            }
            due("put of bytes from " + i, judge.put(word, n), true);
        }
    }

    static void fault(String what, KindJudge judge, int kind, int place, int method) {
        due(what + ": fault(0)", judge.fault(0), kind);
        due(what + ": fault(1)", judge.fault(1), place);
        due(what + ": fault(2)", judge.fault(2), method);
    }

    /** A new object's answer to these bytes: the FAULT that is due, kind 0 for none. */
    static KindJudge loads(String what, byte[] file, int kind, int place, int method) {
        KindJudge judge = new KindJudge();
        int answer = load(judge, file);
        due(what + ": load() throws", answer == THROWN, kind != 0);
        fault(what, judge, kind, place, method);
        return judge;
    }

    static KindJudge good(String what, byte[] file) {
        return loads(what, file, 0, 0, 0);
    }

    /** Runs every test of a class, its static methods without parameters, by their names, and ends. */
    static void all(Class<?> tests) {
        Map<String, Method> byName = new TreeMap<>();
        for (Method method : tests.getDeclaredMethods()) {
            if (method.getParameterCount() == 0 && method.getReturnType() == void.class) {
                byName.put(method.getName(), method);
            }
        }
        for (Method method : byName.values()) {
            run(method);
        }
        end();
    }

    private static void run(Method method) {
        int before = calls;
        test = method.getName() + ": ";
        try {
            method.invoke(null);
        } catch (InvocationTargetException e) {
            due("threw " + e.getCause(), true, false);
        } catch (IllegalAccessException e) {
            due("can't be called", true, false);
        }
        due("looks at an answer", calls > before, true);
        test = "";
    }

    static void end() {
        System.out.println(calls + " answers looked at, " + wrong + " not as due");
        if (wrong != 0 || calls == 0) {
            System.exit(1);
        }
    }
}
