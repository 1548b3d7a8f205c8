import java.util.ArrayList;
import java.util.Arrays;
import java.util.List;
import java.util.TreeMap;
import java.util.TreeSet;

/**
 * The document once more, written without a thought of room or speed, to compare answers with: what comes to each
 * INSTRUCTION is worked out anew from all that lead to it, round after round, until nothing changes.
 */
final class Reference {
    /** What is known before an INSTRUCTION; a STACK of null CLASHES. */
    static final class State {
        final List<Integer> locals;
        final List<Integer> stack;

        State(List<Integer> locals, List<Integer> stack) {
            this.locals = locals;
            this.stack = stack;
        }

        boolean same(State other) {
            return other != null && (stack == null ? other.stack == null
                : stack.equals(other.stack) && locals.equals(other.locals));
        }
    }

    static final class Signature {
        final List<Integer> parameters = new ArrayList<>();
        int returned;
    }

    static final class Method {
        Signature signature;
        int locals;
        int stack;
        int[] code;
        final TreeSet<Integer> begins = new TreeSet<>();
        TreeMap<Integer, State> states = new TreeMap<>();
    }

    /** FAULT 1 at a byte. */
    private static final class Bad extends Exception {
        private static final long serialVersionUID = 1L;
        final int place;

        Bad(int place) {
            this.place = place;
        }
    }

    final List<Integer> supers = new ArrayList<>();
    final List<List<Integer>> fields = new ArrayList<>();
    final List<Signature> selectors = new ArrayList<>();
    final List<Method> methods = new ArrayList<>();
    final List<int[]> table = new ArrayList<>();
    int[] fault = {0, 0, 0};

    private final byte[] bytes;
    private int at;

    Reference(byte[] bytes) {
        this.bytes = bytes;
        try {
            read();
        } catch (Bad bad) {
            fault = new int[] {1, bad.place, 0};
            return;
        }
        for (int m = 0; m < methods.size(); m++) {
            scan(methods.get(m));
            for (int place : methods.get(m).begins) {
                if (fault[0] == 0 && broken(methods.get(m), place)) {
                    fault = new int[] {2, place, m};
                }
            }
        }
        if (fault[0] != 0) {
            return;
        }
        for (int m = 0; m < methods.size(); m++) {
            verify(methods.get(m));
            for (int place : methods.get(m).states.keySet()) {
                if (fault[0] == 0 && wrong(methods.get(m), place)) {
                    fault = new int[] {3, place, m};
                }
            }
        }
    }

    private int any() throws Bad {
        if (at >= bytes.length) {
            throw new Bad(bytes.length);
        }
        return bytes[at++] & 255;
    }

    private int within(int least, int most) throws Bad {
        int b = any();
        if (b < least || b > most) {
            throw new Bad(at - 1);
        }
        return b;
    }

    private int typeAmong(int classes, boolean nothing) throws Bad {
        int b = any();
        if (b == 1 || b == 2 || b == 0 && nothing || b >= 16 && b <= 15 + classes) {
            return b;
        }
        throw new Bad(at - 1);
    }

    private void read() throws Bad {
        int classes = within(0, 8);
        for (int c = 0; c < classes; c++) {
            int parent = within(0, c) - 1;
            List<Integer> own = parent < 0 ? new ArrayList<>() : new ArrayList<>(fields.get(parent));
            int added = within(0, 4);
            if (own.size() + added > 8) {
                throw new Bad(at - 1);
            }
            for (int f = 0; f < added; f++) {
                own.add(typeAmong(classes, false));
            }
            supers.add(parent);
            fields.add(own);
        }
        int count = within(0, 8);
        for (int s = 0; s < count; s++) {
            selectors.add(signature(3, classes));
        }
        count = within(1, 16);
        for (int m = 0; m < count; m++) {
            Method method = new Method();
            method.signature = signature(4, classes);
            method.locals = within(method.signature.parameters.size(), 8);
            method.stack = within(0, 8);
            method.code = new int[within(1, 120)];
            for (int i = 0; i < method.code.length; i++) {
                method.code[i] = any();
            }
            methods.add(method);
        }
        for (int c = 0; c < classes; c++) {
            int[] row = new int[selectors.size()];
            for (int s = 0; s < row.length; s++) {
                row[s] = entry(c, s, any());
            }
            table.add(row);
        }
        if (at != bytes.length) {
            throw new Bad(at);
        }
    }

    private Signature signature(int most, int classes) throws Bad {
        Signature made = new Signature();
        int parameters = within(0, most);
        for (int i = 0; i < parameters; i++) {
            made.parameters.add(typeAmong(classes, false));
        }
        made.returned = typeAmong(classes, true);
        return made;
    }

    private int entry(int c, int s, int b) throws Bad {
        if (b == 0) {
            return supers.get(c) < 0 ? -1 : table.get(supers.get(c))[s];
        }
        if (b > methods.size()) {
            throw new Bad(at - 1);
        }
        Signature has = methods.get(b - 1).signature;
        Signature wants = selectors.get(s);
        boolean good = has.returned == wants.returned && !has.parameters.isEmpty()
            && has.parameters.get(0) >= 16 && line(c).contains(has.parameters.get(0) - 16)
            && has.parameters.subList(1, has.parameters.size()).equals(wants.parameters);
        if (!good) {
            throw new Bad(at - 1);
        }
        return b - 1;
    }

    /** The class, its SUPER, and so on. */
    private List<Integer> line(int c) {
        List<Integer> all = new ArrayList<>();
        for (int k = c; k >= 0; k = supers.get(k)) {
            all.add(k);
        }
        return all;
    }

    boolean fit(int kind, int type) {
        if (type == 1 || type == 2) {
            return kind == type || type == 2 && kind == 3;
        }
        if (kind == 3) {
            return true;
        }
        if (type == 15) {
            return kind >= 15;
        }
        return kind >= 16 && line(kind - 16).contains(type - 16);
    }

    int meet(int a, int b) {
        if (a == b) {
            return a;
        }
        boolean objects = (a == 3 || a >= 15) && (b == 3 || b >= 15);
        if (!objects) {
            return a == 3 && b == 2 || a == 2 && b == 3 ? 2 : 0;
        }
        if (a == 3 || b == 3) {
            return Math.max(a, b) == 3 ? 3 : Math.max(a, b);
        }
        if (a == 15 || b == 15) {
            return 15;
        }
        List<Integer> both = line(a - 16);
        both.retainAll(line(b - 16));
        return both.isEmpty() ? 15 : 16 + both.get(0);
    }

    private static int sizeTold(int[] code, int place) {
        int op = code[place];
        if (op == 1 || op == 20 || op == 39 || op == 40) {
            return 3;
        }
        if (op == 53) {
            return place + 1 < code.length ? 3 + code[place + 1] : 1000;
        }
        boolean two = op == 0 || op == 3 || op == 4 || op >= 21 && op <= 38 || op >= 45 && op <= 48;
        return two ? 2 : op < 53 ? 1 : 1000;
    }

    int size(int m, int place) {
        return sizeTold(methods.get(m).code, place);
    }

    private void scan(Method method) {
        int place = 0;
        while (place < method.code.length) {
            method.begins.add(place);
            place += sizeTold(method.code, place);
        }
    }

    /** Where it goes on by PLACES told. */
    private static List<Integer> told(int[] code, int place) {
        List<Integer> all = new ArrayList<>();
        if (code[place] >= 21 && code[place] <= 37) {
            all.add(code[place + 1]);
        }
        if (code[place] == 53) {
            for (int k = 0; k <= code[place + 1]; k++) {
                all.add(code[place + 2 + k]);
            }
        }
        return all;
    }

    private static boolean ends(int op) {
        return op == 21 || op == 49 || op == 50 || op == 53;
    }

    private boolean broken(Method method, int place) {
        int[] code = method.code;
        int size = sizeTold(code, place);
        if (place + size > code.length) {
            return true;
        }
        int op = code[place];
        int a = size > 1 ? code[place + 1] : 0;
        boolean missing = (op == 3 || op == 4 || op == 20) && a >= method.locals
            || (op == 38 || op == 45 || op == 46 || op == 39 || op == 40) && a >= supers.size()
            || op == 47 && a >= methods.size()
            || op == 48 && a >= selectors.size()
            || op == 53 && (a == 0 || a > 8);
        if (missing) {
            return true;
        }
        if ((op == 39 || op == 40) && code[place + 2] >= fields.get(a).size()) {
            return true;
        }
        return !method.begins.containsAll(told(code, place)) || place + size == code.length && !ends(op);
    }

    int takes(Method method, int place) {
        int op = method.code[place];
        if (op == 47) {
            return methods.get(method.code[place + 1]).signature.parameters.size();
        }
        if (op == 48) {
            return 1 + selectors.get(method.code[place + 1]).parameters.size();
        }
        if (op == 43) {
            return 3;
        }
        if (op == 7 || op >= 8 && op <= 18 || op >= 28 && op <= 33 || op == 36 || op == 37 || op == 40 || op == 42) {
            return 2;
        }
        boolean none = op <= 3 || op == 20 || op == 21 || op == 38 || op == 49 || op == 52;
        return none ? 0 : 1;
    }

    /** The KINDS that it puts, of those that it takes. */
    List<Integer> puts(Method method, int place, List<Integer> locals, List<Integer> taken) {
        int op = method.code[place];
        int a = place + 1 < method.code.length ? method.code[place + 1] : 0;
        switch (op) {
            case 2:
                return List.of(3);
            case 3:
                return List.of(locals.get(a));
            case 6:
                return List.of(taken.get(0), taken.get(0));
            case 7:
                return List.of(taken.get(1), taken.get(0));
            case 38:
            case 46:
                return List.of(16 + a);
            case 39:
                return List.of(fields.get(a).get(method.code[place + 2]));
            case 41:
                return List.of(2);
            case 47:
            case 48:
                int returned = op == 47 ? methods.get(a).signature.returned : selectors.get(a).returned;
                return returned == 0 ? List.of() : List.of(returned);
            default:
                boolean number = op <= 1 || op >= 8 && op <= 19 || op == 42 || op == 44 || op == 45 || op == 52;
                return number ? List.of(1) : List.of();
        }
    }

    int putsCount(Method method, int place) {
        List<Integer> zeros = Arrays.asList(0, 0, 0, 0, 0, 0, 0, 0);
        return puts(method, place, zeros, zeros).size();
    }

    private boolean room(Method method, int place, State before) {
        if (before.stack == null || takes(method, place) > before.stack.size()) {
            return false;
        }
        return before.stack.size() - takes(method, place) + putsCount(method, place) <= method.stack;
    }

    private State behind(Method method, int place, State before) {
        if (!room(method, place, before)) {
            return new State(before.locals, null);
        }
        int left = before.stack.size() - takes(method, place);
        List<Integer> taken = before.stack.subList(left, before.stack.size());
        List<Integer> stack = new ArrayList<>(before.stack.subList(0, left));
        stack.addAll(puts(method, place, before.locals, taken));
        List<Integer> locals = new ArrayList<>(before.locals);
        if (method.code[place] == 4) {
            locals.set(method.code[place + 1], taken.get(0));
        }
        return new State(locals, stack);
    }

    TreeSet<Integer> next(Method method, int place) {
        TreeSet<Integer> all = new TreeSet<>(told(method.code, place));
        if (!ends(method.code[place])) {
            all.add(place + sizeTold(method.code, place));
        }
        return all;
    }

    private State join(State a, State b) {
        if (a == null) {
            return b;
        }
        if (a.stack == null || b.stack == null || a.stack.size() != b.stack.size()) {
            return new State(a.locals, null);
        }
        return new State(joinRows(a.locals, b.locals), joinRows(a.stack, b.stack));
    }

    private List<Integer> joinRows(List<Integer> a, List<Integer> b) {
        List<Integer> all = new ArrayList<>();
        for (int i = 0; i < a.size(); i++) {
            all.add(meet(a.get(i), b.get(i)));
        }
        return all;
    }

    private void verify(Method method) {
        List<Integer> locals = new ArrayList<>(method.signature.parameters);
        while (locals.size() < method.locals) {
            locals.add(0);
        }
        boolean more = true;
        while (more) {
            TreeMap<Integer, State> now = new TreeMap<>();
            now.put(0, new State(locals, List.of()));
            for (int place : method.states.keySet()) {
                State behind = behind(method, place, method.states.get(place));
                for (int next : next(method, place)) {
                    now.put(next, join(now.get(next), behind));
                }
            }
            more = false;
            for (int place : now.keySet()) {
                more |= !now.get(place).same(method.states.get(place));
            }
            method.states = now;
        }
    }

    private boolean wrong(Method method, int place) {
        State before = method.states.get(place);
        if (!room(method, place, before)) {
            return true;
        }
        int op = method.code[place];
        int a = place + 1 < method.code.length ? method.code[place + 1] : 0;
        List<Integer> taken = before.stack.subList(before.stack.size() - takes(method, place), before.stack.size());
        if (op == 3 || op == 20) {
            return op == 3 ? before.locals.get(a) == 0 : before.locals.get(a) != 1;
        }
        if (op >= 4 && op <= 7) {
            return taken.contains(0);
        }
        if (op >= 34 && op <= 37) {
            boolean mixed = taken.contains(2) && taken.stream().anyMatch(k -> k >= 15);
            return taken.contains(0) || taken.contains(1) || mixed;
        }
        if (op == 45 || op == 46) {
            return taken.get(0) != 3 && taken.get(0) < 15;
        }
        int returned = method.signature.returned;
        if (op == 49 || op == 50) {
            return op == 49 ? returned != 0 : returned == 0 || !fit(taken.get(0), returned);
        }
        if (op == 48) {
            int x = taken.get(0);
            return x < 16 || table.get(x - 16)[a] < 0 || !fitAll(taken.subList(1, taken.size()), selectors.get(a).parameters);
        }
        return !fitAll(taken, wanted(method, place));
    }

    private boolean fitAll(List<Integer> kinds, List<Integer> types) {
        for (int i = 0; i < kinds.size(); i++) {
            if (!fit(kinds.get(i), types.get(i))) {
                return false;
            }
        }
        return true;
    }

    private List<Integer> wanted(Method method, int place) {
        int a = place + 1 < method.code.length ? method.code[place + 1] : 0;
        switch (method.code[place]) {
            case 39:
                return List.of(16 + a);
            case 40:
                return List.of(16 + a, fields.get(a).get(method.code[place + 2]));
            case 42:
            case 43:
            case 44:
                return List.of(2, 1, 1);
            case 47:
                return methods.get(a).signature.parameters;
            default:
                return List.of(1, 1, 1);
        }
    }
}
