import java.io.ByteArrayOutputStream;
import java.util.ArrayList;
import java.util.List;

/** Puts a FILE together from its parts. */
final class FileMaker {
    private final List<int[]> classes = new ArrayList<>();
    private final List<int[]> selectors = new ArrayList<>();
    private final List<int[]> methods = new ArrayList<>();
    private int[] table = {};

    static int[] types(int... types) {
        return types;
    }

    static int[] code(int... code) {
        return code;
    }

    FileMaker type(int superClass, int... fields) {
        classes.add(join(new int[] {superClass + 1, fields.length}, fields));
        return this;
    }

    FileMaker selector(int returned, int... parameters) {
        selectors.add(join(new int[] {parameters.length}, parameters, new int[] {returned}));
        return this;
    }

    FileMaker method(int[] parameters, int returned, int locals, int stack, int... code) {
        methods.add(join(new int[] {parameters.length}, parameters, new int[] {returned, locals, stack, code.length}, code));
        return this;
    }

    /** A METHOD without PARAMETERS that returns nothing, with all the room there may be. */
    FileMaker plain(int... code) {
        return method(types(), 0, 8, 8, code);
    }

    FileMaker table(int... entries) {
        table = entries;
        return this;
    }

    byte[] bytes() {
        ByteArrayOutputStream out = new ByteArrayOutputStream();
        write(out, classes);
        write(out, selectors);
        write(out, methods);
        int entries = classes.size() * selectors.size();
        for (int i = 0; i < entries; i++) {
            out.write(i < table.length ? table[i] : 0);
        }
        return out.toByteArray();
    }

    private static void write(ByteArrayOutputStream out, List<int[]> parts) {
        out.write(parts.size());
        for (int[] part : parts) {
            for (int b : part) {
                out.write(b);
            }
        }
    }

    static int[] join(int[]... parts) {
        int length = 0;
        for (int[] part : parts) {
            length += part.length;
        }
        int[] all = new int[length];
        int at = 0;
        for (int[] part : parts) {
            System.arraycopy(part, 0, all, at, part.length);
            at += part.length;
        }
        return all;
    }
}
