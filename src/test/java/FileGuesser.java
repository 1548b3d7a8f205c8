import java.util.ArrayList;
import java.util.List;
import java.util.Random;

/** Makes FILES by chance, the same ones each time: most of them nearly good, some good, some spoilt. */
final class FileGuesser {
    private final Random random;
    // Up to as many of all as there may be, and high STACKS, in one FILE of six.
    private boolean large;
    private int classes;
    private final List<Integer> supers = new ArrayList<>();
    private final List<List<Integer>> fields = new ArrayList<>();
    private final List<int[]> selectors = new ArrayList<>();
    private final List<int[]> methods = new ArrayList<>();

    FileGuesser(long seed) {
        random = new Random(seed);
    }

    private int upTo(int most) {
        return random.nextInt(most + 1);
    }

    private int someType() {
        int t = upTo(classes > 0 ? 3 : 1);
        return t < 2 ? t + 1 : 16 + upTo(classes - 1);
    }

    private int[] someTypes(int most) {
        int[] types = new int[upTo(most)];
        for (int i = 0; i < types.length; i++) {
            types[i] = someType();
        }
        return types;
    }

    byte[] file() {
        supers.clear();
        fields.clear();
        selectors.clear();
        methods.clear();
        FileMaker maker = new FileMaker();
        large = upTo(5) == 0;
        classes = upTo(large ? 8 : 5);
        for (int c = 0; c < classes; c++) {
            int parent = upTo(c) - 1;
            List<Integer> all = parent < 0 ? new ArrayList<>() : new ArrayList<>(fields.get(parent));
            int[] own = someTypes(Math.min(large ? 4 : 2, 8 - all.size()));
            for (int t : own) {
                all.add(t);
            }
            supers.add(parent);
            fields.add(all);
            maker.type(parent, own);
        }
        int count = upTo(large ? 8 : 3);
        for (int s = 0; s < count; s++) {
            int[] parameters = someTypes(large ? 3 : 2);
            int returned = upTo(2) == 0 ? 0 : someType();
            selectors.add(FileMaker.join(new int[] {returned}, parameters));
            maker.selector(returned, parameters);
        }
        count = 1 + upTo(large ? 15 : 4);
        for (int m = 0; m < count; m++) {
            methods.add(someSignature());
        }
        for (int m = 0; m < count; m++) {
            addMethod(maker, methods.get(m));
        }
        maker.table(someTable());
        return spoil(maker.bytes());
    }

    private int[] someSignature() {
        if (classes > 0 && !selectors.isEmpty() && upTo(1) == 0) {
            int[] selector = selectors.get(upTo(selectors.size() - 1));
            int[] made = new int[selector.length + 1];
            System.arraycopy(selector, 1, made, 2, selector.length - 1);
            made[0] = selector[0];
            made[1] = 16 + upTo(classes - 1);
            return made;
        }
        return FileMaker.join(new int[] {upTo(2) == 0 ? 0 : someType()}, someTypes(4));
    }

    private boolean isBelow(int c, int d) {
        return c == d || c > d && supers.get(c) >= 0 && isBelow(supers.get(c), d);
    }

    private boolean isGood(int[] method, int[] selector, int c) {
        if (method.length != selector.length + 1 || method[0] != selector[0] || method[1] < 16 || !isBelow(c, method[1] - 16)) {
            return false;
        }
        for (int i = 1; i < selector.length; i++) {
            if (method[i + 1] != selector[i]) {
                return false;
            }
        }
        return true;
    }

    private int[] someTable() {
        int[] table = new int[classes * selectors.size()];
        for (int i = 0; i < table.length; i++) {
            for (int m = 0; m < methods.size(); m++) {
                if (isGood(methods.get(m), selectors.get(i % selectors.size()), i / selectors.size()) && upTo(2) > 0) {
                    table[i] = m + 1;
                }
            }
        }
        if (table.length > 0 && upTo(40) == 0) {
            table[upTo(table.length - 1)] = upTo(methods.size() + 1);
        }
        return table;
    }

    private byte[] spoil(byte[] file) {
        if (upTo(5) == 0) {
            file[upTo(file.length - 1)] = (byte) (upTo(1) == 0 ? upTo(255) : upTo(60));
        }
        if (upTo(40) == 0) {
            file = java.util.Arrays.copyOf(file, upTo(file.length + 3));
        }
        return file;
    }

    // The METHOD that is made: its code, the KINDS as they are likely to be, where jumps are to be filled in.
    private final List<Integer> code = new ArrayList<>();
    private final List<Integer> stack = new ArrayList<>();
    private final List<Integer> locals = new ArrayList<>();
    private final List<Integer> begins = new ArrayList<>();
    private final List<Integer> heights = new ArrayList<>();
    private final List<int[]> jumps = new ArrayList<>();
    private int returned;

    private void addMethod(FileMaker maker, int[] signature) {
        code.clear();
        stack.clear();
        locals.clear();
        begins.clear();
        heights.clear();
        jumps.clear();
        returned = signature[0];
        int[] parameters = java.util.Arrays.copyOfRange(signature, 1, signature.length);
        for (int p : parameters) {
            locals.add(p);
        }
        int more = upTo(8 - locals.size());
        for (int i = 0; i < more; i++) {
            locals.add(0);
        }
        // Of many METHODS each is short: the longer one is, the likelier it has a FAULT.
        int wanted = 1 + upTo(methods.size() > 5 ? 4 : upTo(3) == 0 ? 100 : 30);
        while (code.size() < wanted) {
            begin();
            step();
        }
        finish();
        for (int[] jump : jumps) {
            code.set(jump[0], place(jump[1]));
        }
        int[] row = new int[Math.min(120, code.size())];
        for (int i = 0; i < row.length; i++) {
            row[i] = code.get(i);
        }
        int room = upTo(20) == 0 ? upTo(8) : 8;
        maker.method(parameters, returned, locals.size(), room, row);
    }

    private void begin() {
        begins.add(code.size());
        heights.add(stack.size());
    }

    /** A PLACE where the STACK is as high, if there is one; now and then any other. */
    private int place(int height) {
        for (int tries = 0; tries < 30; tries++) {
            int i = upTo(begins.size() - 1);
            if (heights.get(i) == height || upTo(200) == 0) {
                return begins.get(i);
            }
        }
        return begins.get(upTo(begins.size() - 1));
    }

    private void add(int... bytes) {
        for (int b : bytes) {
            code.add(b);
        }
    }

    private void jump() {
        jumps.add(new int[] {code.size(), stack.size()});
        code.add(0);
    }

    private int pop() {
        return stack.isEmpty() ? 0 : stack.remove(stack.size() - 1);
    }

    private int top(int below) {
        int i = stack.size() - 1 - below;
        return i < 0 ? 0 : stack.get(i);
    }

    /** One INSTRUCTION that is likely to be fit for what is there. */
    private void step() {
        if (upTo(60) == 0) {
            add(upTo(53));
            return;
        }
        boolean high = large && stack.size() > 3;
        if (stack.size() > (large ? 7 : 6) || !stack.isEmpty() && upTo(high ? 1 : 2) > 0) {
            take();
        } else {
            give();
        }
    }

    private void give() {
        int choice = upTo(6);
        if (choice == 0) {
            add(0, upTo(255));
            stack.add(1);
        } else if (choice == 1) {
            add(2);
            stack.add(3);
        } else if (choice == 2 && classes > 0) {
            int c = upTo(classes - 1);
            add(38, c);
            stack.add(16 + c);
        } else if (choice == 3) {
            add(52);
            stack.add(1);
        } else if (choice == 4) {
            call();
        } else if (!locals.isEmpty()) {
            int l = upTo(locals.size() - 1);
            if (locals.get(l) != 0 || upTo(30) == 0) {
                add(3, l);
                stack.add(locals.get(l));
            } else {
                add(1, upTo(255), upTo(255));
                stack.add(1);
            }
        } else {
            add(0, 7);
            stack.add(1);
        }
    }

    private void call() {
        int m = upTo(methods.size() - 1);
        int[] signature = methods.get(m);
        for (int i = 1; i < signature.length; i++) {
            if (signature[i] == 1) {
                add(0, i);
            } else if (signature[i] >= 16 && upTo(1) == 0) {
                add(38, signature[i] - 16);
            } else {
                add(2);
            }
            stack.add(signature[i]);
            begin();
        }
        add(47, m);
        for (int i = 1; i < signature.length; i++) {
            pop();
        }
        if (signature[0] != 0) {
            stack.add(signature[0]);
        }
    }

    private void take() {
        int choice = upTo(7);
        if (choice == 0 && !locals.isEmpty()) {
            int l = upTo(locals.size() - 1);
            add(4, l);
            int x = pop();
            locals.set(l, upTo(1) == 0 ? x : locals.get(l));
        } else if (choice == 1 && stack.size() < 8) {
            add(6);
            stack.add(top(0));
        } else if (choice == 2 && stack.size() > 1) {
            add(7);
            int y = pop();
            int x = pop();
            stack.add(y);
            stack.add(x);
        } else if (choice == 3) {
            add(5);
            pop();
        } else if (choice == 4 && top(0) == returned && upTo(2) == 0) {
            add(50);
            pop();
            leave();
        } else if (top(0) == 1) {
            takeInt();
        } else {
            takeThing();
        }
    }

    /** Behind what does not go on, the STACK is as it is at some PLACE that is jumped to. */
    private void leave() {
        if (upTo(1) == 0 || stack.size() > 3) {
            stack.clear();
        }
    }

    private void takeInt() {
        int choice = upTo(5);
        if (choice == 0 && top(1) == 1) {
            add(8 + upTo(10));
            pop();
        } else if (choice == 1 && top(1) == 1) {
            pop();
            pop();
            add(28 + upTo(5));
            jump();
        } else if (choice == 2) {
            pop();
            add(22 + upTo(5));
            jump();
        } else if (choice == 3) {
            pop();
            int n = 1 + upTo(large ? 7 : 3);
            add(53, n);
            for (int i = 0; i <= n; i++) {
                jump();
            }
            leave();
        } else if (choice == 4) {
            add(41);
            pop();
            stack.add(2);
        } else {
            add(upTo(1) == 0 ? 51 : 19);
            if (code.get(code.size() - 1) == 51) {
                pop();
            }
        }
    }

    private void takeThing() {
        int x = top(0);
        int choice = upTo(5);
        if (choice == 0) {
            pop();
            add(34 + upTo(1));
            jump();
        } else if (choice == 1 && stack.size() > 1 && top(1) != 1) {
            pop();
            pop();
            add(36 + upTo(1));
            jump();
        } else if (x == 2) {
            add(44);
            pop();
            stack.add(1);
        } else if (x >= 16 && choice == 2 && !fields.get(x - 16).isEmpty()) {
            int f = upTo(fields.get(x - 16).size() - 1);
            add(39, x - 16, f);
            pop();
            stack.add(fields.get(x - 16).get(f));
        } else if (x >= 16 && choice == 3 && !selectors.isEmpty()) {
            send();
        } else if (classes > 0 && choice == 4) {
            add(45, upTo(classes - 1));
            pop();
            stack.add(1);
        } else if (classes > 0) {
            int c = upTo(classes - 1);
            add(46, c);
            pop();
            stack.add(16 + c);
        } else {
            add(5);
            pop();
        }
    }

    private void send() {
        int s = upTo(selectors.size() - 1);
        int[] selector = selectors.get(s);
        for (int i = 1; i < selector.length; i++) {
            add(selector[i] == 1 ? 52 : 2);
            stack.add(selector[i]);
            begin();
        }
        add(48, s);
        for (int i = 0; i < selector.length; i++) {
            pop();
        }
        if (selector[0] != 0) {
            stack.add(selector[0]);
        }
    }

    private void finish() {
        begin();
        if (upTo(4) == 0) {
            add(21);
            jump();
        } else if (returned == 0) {
            add(49);
        } else {
            add(returned == 1 ? 52 : 2);
            begin();
            add(50);
        }
    }
}
