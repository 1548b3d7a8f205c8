import java.util.Arrays;

/** THE FILE: each sentence with an edge, by bytes that were counted by hand. */
public final class FileEdgeTests {
    /** How many METHODS, and one of them: no PARAMETERS, nothing RETURNED, on at 0 for ever. */
    private static final int[] ONE_METHOD = {1, 0, 0, 0, 0, 2, 21, 0};
    private static final int[] NO_CLASSES = {0};
    private static final int[] NO_SELECTORS = {0};

    private static int[] row(int... bytes) {
        return bytes;
    }

    private static int[] times(int n, int... bytes) {
        int[] all = new int[n * bytes.length];
        for (int i = 0; i < all.length; i++) {
            all[i] = bytes[i % bytes.length];
        }
        return all;
    }

    private static byte[] bytes(int[]... parts) {
        int[] all = FileMaker.join(parts);
        byte[] made = new byte[all.length];
        for (int i = 0; i < all.length; i++) {
            made[i] = (byte) all[i];
        }
        return made;
    }

    /** The bytes are a FILE, or have FAULT 1 at this one. */
    private static void judge(String what, boolean good, int place, int[]... parts) {
        Check.loads(what, bytes(parts), good ? 0 : 1, good ? 0 : place, 0);
    }

    /** Promise 3 (TYPES): "TYPES that are told in a FILE are 1, 2, and 16 + c of any class that there is." */
    static void typesInFile() {
        for (int t = 0; t <= 255; t++) {
            for (int classes = 0; classes <= 8; classes += 2) {
                boolean type = t == 1 || t == 2 || t >= 16 && t < 16 + classes;
                int[] front = FileMaker.join(row(classes), times(classes, 0, 0));
                int at = front.length;
                String what = "TYPE " + t + " with " + classes + " classes of a ";
                judge(what + "SELECTOR's PARAMETER", type, at + 2, front, row(1, 1, t, 0), ONE_METHOD, times(classes, 0));
                judge(what + "METHOD's PARAMETER", type, at + 3, front, NO_SELECTORS, row(1, 1, t, 0, 1, 0, 2, 21, 0));
                judge(what + "SELECTOR, RETURNED", type || t == 0, at + 2, front, row(1, 0, t), ONE_METHOD, times(classes, 0));
                judge(what + "METHOD, RETURNED", type || t == 0, at + 3, front, NO_SELECTORS, row(1, 0, t, 0, 0, 2, 21, 0));
                if (classes > 0) {
                    int[] first = FileMaker.join(row(classes, 0, 1, t), times(classes - 1, 0, 0));
                    judge(what + "FIELD", type, 3, first, NO_SELECTORS, ONE_METHOD);
                }
            }
        }
    }

    /** Promise 3 (THE FILE): "THE FILE (at most 1500 bytes)" */
    static void longestFile() {
        FileMaker maker = new FileMaker();
        for (int m = 0; m < 12; m++) {
            int[] code = new int[m < 11 ? 120 : 117];
            Arrays.fill(code, 49);
            maker.plain(code);
        }
        byte[] file = maker.bytes();
        Check.due("its bytes", file.length, 1500);
        KindJudge judge = Check.good("1500 bytes", file);
        Check.due("its last METHOD", Check.look(judge, 11, 116, 0), 49);
        Check.due("no PLACE behind the last byte", Check.look(judge, 11, 117, 0), Check.THROWN);
    }

    /** Promise 3 (THE FILE): "How many CLASSES (0 .. 8)" */
    static void classes() {
        for (int n = 0; n <= 255; n++) {
            judge(n + " CLASSES", n <= 8, 0, row(n), times(n, 0, 0), NO_SELECTORS, ONE_METHOD);
        }
    }

    /** Promise 3 (THE FILE): "its SUPER (0 none, else 1 + a class ahead of it)" */
    static void supers() {
        for (int c = 0; c < 8; c++) {
            for (int n = 0; n <= 255; n++) {
                int[] ahead = times(c, 0, 0);
                judge("SUPER " + n + " of class " + c, n <= c, 1 + 2 * c,
                    row(8), ahead, row(n, 0), times(7 - c, 0, 0), NO_SELECTORS, ONE_METHOD);
            }
        }
    }

    /** Promise 3 (THE FILE): "how many FIELDS it adds (0 .. 4), their TYPES" */
    static void addedFields() {
        for (int n = 0; n <= 255; n++) {
            judge(n + " FIELDS", n <= 4, 2, row(1, 0, n), times(n, 1), NO_SELECTORS, ONE_METHOD);
        }
    }

    /** Promise 3 (THE FILE): "8 at most (the number by which there are more is wrong)" */
    static void allFields() {
        for (int first = 0; first <= 4; first++) {
            for (int second = 0; second <= 4; second++) {
                for (int third = 0; third <= 4; third++) {
                    judge(first + " FIELDS, then " + second + " and " + third, first + second + third <= 8,
                        6 + first + second,
                        row(3, 0, first), times(first, 1), row(1, second), times(second, 2),
                        row(2, third), times(third, 1), NO_SELECTORS, ONE_METHOD);
                }
            }
        }
    }

    /** Promise 12 (THE FILE): "A class has its SUPER's FIELDS, then its own" */
    static void fieldsOfSuperFirst() {
        KindJudge judge = Check.good("two SUPERS", new FileMaker()
            .type(-1, 1, 2).type(0, 17, 18).type(1, 16, 1, 2, 18).type(0, 2).plain(49).bytes());
        int[][] due = {{1, 2}, {1, 2, 17, 18}, {1, 2, 17, 18, 16, 1, 2, 18}, {1, 2, 2}};
        for (int c = 0; c < due.length; c++) {
            Check.due("FIELDS of class " + c, judge.type(c, 1), due[c].length);
            for (int f = 0; f < due[c].length; f++) {
                Check.due("FIELD " + f + " of class " + c, judge.type(c, 2 + f), due[c][f]);
            }
        }
    }

    /** Promise 9 (THE FILE): "A class is BELOW its SUPER, and what that is BELOW." */
    static void below() {
        int[] supers = {-1, 0, 1, 2, 3, 4, 5, 0};
        FileMaker maker = new FileMaker();
        for (int parent : supers) {
            maker.type(parent);
        }
        KindJudge judge = Check.good("a chain of seven and one aside", maker.plain(49).bytes());
        for (int c = 0; c < 8; c++) {
            for (int d = 0; d < 8; d++) {
                boolean fit = c == d || d == 0 || c < 7 && d < c;
                Check.due("REF " + c + " as REF " + d, judge.fits(16 + c, 16 + d), fit ? 1 : 0);
            }
        }
    }

    /** Promise 3 (THE FILE): "How many SELECTORS (0 .. 8)" */
    static void selectors() {
        for (int n = 0; n <= 255; n++) {
            judge(n + " SELECTORS", n <= 8, 1, NO_CLASSES, row(n), times(n, 0, 0), ONE_METHOD);
        }
    }

    /** Promise 3 (THE FILE): "for each how many PARAMETERS (0 .. 3), their TYPES, the TYPE that it RETURNS (or 0: nothing)" */
    static void selectorParameters() {
        for (int n = 0; n <= 255; n++) {
            judge(n + " PARAMETERS", n <= 3, 2, NO_CLASSES, row(1, n), times(n, 1), row(0), ONE_METHOD);
            judge(n + " PARAMETERS of the second", n <= 3, 5, NO_CLASSES, row(2, 1, 2, 1, n), times(n, 1), row(0), ONE_METHOD);
        }
    }

    /** Promise 3 (THE FILE): "How many METHODS (1 .. 16)" */
    static void methods() {
        for (int n = 0; n <= 255; n++) {
            judge(n + " METHODS", n >= 1 && n <= 16, 2,
                NO_CLASSES, NO_SELECTORS, row(n), times(Math.min(n, 100), 0, 0, 0, 0, 1, 49));
        }
    }

    /** Promise 3 (THE FILE): "for each how many PARAMETERS (0 .. 4), their TYPES, the TYPE that it RETURNS (or 0)" */
    static void methodParameters() {
        for (int n = 0; n <= 255; n++) {
            judge(n + " PARAMETERS", n <= 4, 3, NO_CLASSES, NO_SELECTORS, row(1, n), times(n, 1), row(0, 8, 0, 1, 49));
        }
    }

    /** Promise 3 (THE FILE): "how many LOCALS (at least its PARAMETERS, 8 at most)" */
    static void locals() {
        for (int parameters = 0; parameters <= 4; parameters++) {
            for (int n = 0; n <= 255; n++) {
                judge(n + " LOCALS with " + parameters + " PARAMETERS", n >= parameters && n <= 8, 5 + parameters,
                    NO_CLASSES, NO_SELECTORS, row(1, parameters), times(parameters, 1), row(0, n, 0, 1, 49));
            }
        }
    }

    /** Promise 3 (THE FILE): "how many its STACK has at most (0 .. 8)" */
    static void stacks() {
        for (int n = 0; n <= 255; n++) {
            judge("a STACK of " + n, n <= 8, 6, NO_CLASSES, NO_SELECTORS, row(1, 0, 0, 0, n, 1, 49));
        }
    }

    /** Promise 3 (THE FILE): "how many bytes of CODE (1 .. 120), these" */
    static void codes() {
        for (int n = 0; n <= 255; n++) {
            judge(n + " bytes of CODE", n >= 1 && n <= 120, 7,
                NO_CLASSES, NO_SELECTORS, row(1, 0, 0, 0, 0, n), times(n, 49));
        }
    }

    /** Promise 11 (THE FILE): "THE TABLE: for each class, for each SELECTOR a byte" */
    static void tableInOrder() {
        KindJudge judge = Check.good("two classes, three SELECTORS", new FileMaker().type(-1).type(-1)
            .selector(0).selector(0).selector(0)
            .method(FileMaker.types(16), 0, 1, 0, 49).method(FileMaker.types(16), 0, 1, 0, 49)
            .method(FileMaker.types(16), 0, 1, 0, 49).method(FileMaker.types(17), 0, 1, 0, 49)
            .method(FileMaker.types(17), 0, 1, 0, 49).method(FileMaker.types(17), 0, 1, 0, 49)
            .table(3, 1, 2, 6, 4, 5).bytes());
        int[] due = {2, 0, 1, 5, 3, 4};
        for (int i = 0; i < due.length; i++) {
            Check.due("method(" + i / 3 + ", " + i % 3 + ")", judge.method(i / 3, i % 3), due[i]);
        }
    }

    /** Promise 11 (THE FILE): "0: as its SUPER has it (none without one)" */
    static void tableOfZero() {
        KindJudge judge = Check.good("a chain", new FileMaker().type(-1).type(0).type(1).type(2).type(-1)
            .selector(0).selector(0)
            .method(FileMaker.types(16), 0, 1, 0, 49).method(FileMaker.types(17), 0, 1, 0, 49)
            .table(1, 0, 0, 2, 0, 0, 0, 1, 0, 0).bytes());
        int[][] due = {{0, -1}, {0, 1}, {0, 1}, {0, 0}, {-1, -1}};
        for (int c = 0; c < due.length; c++) {
            Check.due("SELECTOR 0 of class " + c, judge.method(c, 0), due[c][0]);
            Check.due("SELECTOR 1 of class " + c, judge.method(c, 1), due[c][1]);
        }
    }

    /** Promise 3 (THE FILE): "else 1 + a METHOD" */
    static void tableOfMethods() {
        for (int methods = 1; methods <= 16; methods += 5) {
            for (int b = 0; b <= 255; b++) {
                judge("byte " + b + " with " + methods + " METHODS", b <= methods, 7 + 7 * methods,
                    row(1, 0, 0), row(1, 0, 0), row(methods), times(methods, 1, 16, 0, 1, 0, 1, 49), row(b));
            }
        }
    }

    private static void entry(String what, boolean good, int c, int returned, int... parameters) {
        FileMaker maker = new FileMaker().type(-1).type(0).type(1).type(0).type(-1)
            .selector(17, 17, 2)
            .method(parameters, returned, 4, 0, 21, 0);
        int[] table = new int[5];
        table[c] = 1;
        byte[] file = maker.table(table).bytes();
        Check.loads(what, file, good ? 0 : 1, good ? 0 : file.length - 5 + c, 0);
    }

    /** Promise 3 (THE FILE): "whose first PARAMETER is REF of this class or of one that it is BELOW" */
    static void tableFirstParameter() {
        boolean[][] isOrIsBelow = {
            {true, false, false, false, false},
            {true, true, false, false, false},
            {true, true, true, false, false},
            {true, false, false, true, false},
            {false, false, false, false, true}};
        for (int c = 0; c < 5; c++) {
            for (int d = 0; d < 5; d++) {
                entry("class " + c + ", REF " + d + " first", isOrIsBelow[c][d], c, 17, 16 + d, 17, 2);
            }
            entry("class " + c + ", INT first", false, c, 17, 1, 17, 2);
            entry("class " + c + ", ARRAY first", false, c, 17, 2, 17, 2);
        }
        Check.loads("no PARAMETER at all", new FileMaker().type(-1).selector(0).plain(49).table(1).bytes(), 1, 13, 0);
    }

    /** Promise 3 (THE FILE): "whose others are those of the SELECTOR (the very same TYPES, as many)" */
    static void tableOtherParameters() {
        entry("the very same", true, 0, 17, 16, 17, 2);
        entry("one less", false, 0, 17, 16, 17);
        entry("two less", false, 0, 17, 16);
        entry("one more", false, 0, 17, 16, 17, 2, 2);
        entry("another order", false, 0, 17, 16, 2, 17);
        entry("REF of the SUPER", false, 0, 17, 16, 16, 2);
        entry("REF of one BELOW", false, 0, 17, 16, 18, 2);
        entry("the last is another", false, 0, 17, 16, 17, 1);
    }

    /** Promise 3 (THE FILE): "and which RETURNS what that does" */
    static void tableReturned() {
        entry("the very same", true, 0, 17, 16, 17, 2);
        int[] others = {0, 1, 2, 16, 18, 19, 20};
        for (int t : others) {
            entry("RETURNS " + t, false, 0, t, 16, 17, 2);
        }
        byte[] nothing = new FileMaker().type(-1).selector(0)
            .method(FileMaker.types(16), 0, 1, 0, 21, 0).table(1).bytes();
        Check.good("both nothing", nothing);
        byte[] something = new FileMaker().type(-1).selector(0)
            .method(FileMaker.types(16), 1, 1, 0, 21, 0).table(1).bytes();
        Check.loads("an INT for nothing", something, 1, something.length - 1, 0);
    }

    /** Promise 4 (FAULT 1): "FAULT 1: the first byte that is not as told" */
    static void firstByteOfSeveral() {
        judge("SUPER and FIELDS", false, 1, row(1, 9, 9, 9), NO_SELECTORS, ONE_METHOD);
        judge("two TYPES", false, 4, row(1, 0, 4, 1, 3, 3, 1), NO_SELECTORS, ONE_METHOD);
        judge("the number that is too large, not what it counts", false, 2, row(1, 0, 5, 9, 9, 9, 9, 9));
        judge("LOCALS and STACK", false, 5, NO_CLASSES, NO_SELECTORS, row(1, 0, 0, 9, 9, 0));
        judge("two of THE TABLE", false, 16, row(1, 0, 0), row(2, 0, 0, 0, 0), ONE_METHOD, row(7, 7));
        judge("wrong, and too short", false, 1, row(1, 2));
        judge("wrong in THE TABLE, and too long", false, 14, row(1, 0, 0), row(1, 0, 0), ONE_METHOD, row(7, 7));
    }

    /** Promise 4 (FAULT 1): "(the CODE's bytes are not looked at)" */
    static void codeIsNotLookedAt() {
        judge("unknown INSTRUCTIONS, and one byte too many", false, 10, NO_CLASSES, NO_SELECTORS,
            row(1, 0, 0, 0, 0, 2, 255, 255, 0));
        byte[] file = new FileMaker().type(-1).selector(0).plain(200, 255).plain(201).table(9).bytes();
        Check.loads("unknown INSTRUCTIONS, and a wrong TABLE", file, 1, file.length - 1, 0);
        Check.loads("unknown INSTRUCTIONS alone", new FileMaker().plain(255).bytes(), 2, 0, 0);
    }

    /** Promise 4 (FAULT 1): "the first one behind the end" */
    static void behindTheEnd() {
        byte[] whole = new FileMaker().type(-1).selector(0).method(FileMaker.types(16), 0, 1, 0, 49).table(1).bytes();
        Check.good("none behind", whole);
        for (int more = 1; more <= 9; more++) {
            Check.loads(more + " behind", Arrays.copyOf(whole, whole.length + more), 1, whole.length, 0);
        }
        judge("behind METHODS without a TABLE", false, 10, NO_CLASSES, NO_SELECTORS, ONE_METHOD, row(0));
        judge("SELECTORS without classes have none", false, 12, NO_CLASSES, row(1, 0, 0), ONE_METHOD, row(0));
        judge("classes without SELECTORS have none", false, 12, row(1, 0, 0), NO_SELECTORS, ONE_METHOD, row(0));
    }

    /** Promise 4 (FAULT 1): "or the FILE's length, if it ends too early" */
    static void tooEarlyAnEnd() {
        byte[] whole = new FileMaker().type(-1, 1, 2).type(0, 17).selector(1, 1, 2).selector(0)
            .method(FileMaker.types(16, 1, 2), 1, 4, 2, 3, 1, 50)
            .method(FileMaker.types(), 0, 0, 0, 49)
            .table(1, 0, 0, 0).bytes();
        Check.good("whole", whole);
        for (int n = 0; n < whole.length; n++) {
            Check.loads("its first " + n + " bytes", Arrays.copyOf(whole, n), 1, n, 0);
        }
        judge("the CODE is longer than what is left", false, 10, NO_CLASSES, NO_SELECTORS, row(1, 0, 0, 0, 0, 120, 49, 49));
    }

    public static void main(String[] args) {
        Check.all(FileEdgeTests.class);
    }
}
