import java.util.Arrays;

/** CODE: each sentence of FAULT 2 with an edge, by PLACES that were counted by hand. */
public final class CodeEdgeTests {
    private static final int GOOD = -1;
    private static final int LAST_KNOWN = 53;
    private static final int[] SIZES = {
        2, 3, 1, 2, 2, 1, 1, 1, 1, 1, 1, 1, 1, 1, 1, 1, 1, 1, 1, 1, 3, 2,
        2, 2, 2, 2, 2, 2, 2, 2, 2, 2, 2, 2, 2, 2, 2, 2,
        2, 3, 3, 1, 1, 1, 1, 2, 2, 2, 2, 1, 1, 1, 1, 4};

    /** The CODE of METHOD 1 of 2, with 3 LOCALS, class 0 of 1 FIELD, class 1 BELOW it of 3, and a SELECTOR. */
    private static KindJudge judge(String what, int place, int... code) {
        byte[] file = new FileMaker().type(-1, 1).type(0, 2, 16).selector(0)
            .method(FileMaker.types(1, 16), 0, 4, 8, 49)
            .method(FileMaker.types(1, 16), 0, 3, 8, code)
            .bytes();
        return faultAt(what, file, place, 1);
    }

    /** FAULT 2 at a PLACE of a METHOD, or none. */
    private static KindJudge faultAt(String what, byte[] file, int place, int method) {
        boolean good = place == GOOD;
        return Check.loads(what, file, good ? 0 : 2, good ? 0 : place, good ? 0 : method);
    }

    /** What is named is named by an INSTRUCTION that is never come to, so that FAULT 2 alone is asked for. */
    private static int[] behindReturn(int... instruction) {
        return FileMaker.join(new int[] {49}, instruction, new int[] {49});
    }

    /** Promise 6 (CODE): "CODE: INSTRUCTIONS, one behind the other from PLACE 0 on: a byte, then what is told by it." */
    static void oneBehindTheOther() {
        for (int op = 0; op <= LAST_KNOWN; op++) {
            int[] instruction = new int[SIZES[op]];
            instruction[0] = op;
            if (op == LAST_KNOWN) {
                instruction[1] = 1;
            }
            KindJudge judge = judge("byte " + op, GOOD, behindReturn(instruction));
            Check.due("PLACE 0", Check.look(judge, 1, 0, 0), 49);
            Check.due("bytes of " + op, Check.look(judge, 1, 1, 1), SIZES[op]);
            for (int k = 1; k < SIZES[op]; k++) {
                Check.due("byte " + k + " of " + op + " begins none", Check.look(judge, 1, 1 + k, 0), Check.THROWN);
            }
            Check.due("the next behind " + op, Check.look(judge, 1, 1 + SIZES[op], 0), 49);
        }
    }

    /** Promise 4 (FAULT 2): "of the least METHOD that has one the least PLACE" */
    static void leastMethodAndPlace() {
        Check.loads("the least PLACE, not the worst", new FileMaker().plain(49, 3, 8, 3, 9, 54).bytes(), 2, 1, 0);
        Check.loads("the least METHOD, not the least PLACE",
            new FileMaker().plain(49).plain(49, 49, 54).plain(54).bytes(), 2, 2, 1);
        FileMaker sixteen = new FileMaker();
        for (int m = 0; m < 15; m++) {
            sixteen.plain(49);
        }
        Check.loads("the last of sixteen", sixteen.plain(49, 54).bytes(), 2, 1, 15);
        int[] longest = new int[120];
        Arrays.fill(longest, 49);
        longest[119] = 54;
        Check.loads("the last PLACE of the longest CODE", new FileMaker().plain(longest).bytes(), 2, 119, 0);
    }

    /** Promise 4 (FAULT 2): "an unknown byte" */
    static void unknownByte() {
        for (int b = LAST_KNOWN + 1; b <= 255; b++) {
            judge("byte " + b, 1, 49, b, 49);
        }
    }

    /** Promise 4 (FAULT 2): "or the CODE ends ahead of what is told" */
    static void endsAheadOfWhatIsTold() {
        for (int op = 0; op <= LAST_KNOWN; op++) {
            for (int n = 1; n < SIZES[op]; n++) {
                int[] code = new int[1 + n];
                code[0] = 49;
                code[1] = op;
                if (op == LAST_KNOWN && n > 1) {
                    code[2] = 1;
                }
                judge(n + " bytes of " + op, 1, code);
            }
        }
        for (int n = 1; n <= 8; n++) {
            int[] code = new int[3 + n];
            code[0] = 49;
            code[1] = 53;
            code[2] = n;
            judge("53 with " + n + ", one PLACE short", 1, code);
            judge("53 with " + n + ", whole", GOOD, Arrays.copyOf(code, 4 + n));
        }
    }

    /** Promise 4 (FAULT 2): "behind either of these none begins" */
    static void noneBehindOneThatIsNone() {
        judge("on behind an unknown byte", 0, 21, 3, 54, 49);
        judge("on behind another", 0, 21, 4, 255, 49, 49);
        judge("on into one that is short", 0, 21, 3, 1, 49);
        judge("on into a 53 that is short", 0, 21, 4, 53, 3, 49, 49);
        judge("no second unknown byte is told", 1, 49, 54, 3, 9, 55);
    }

    /** Promise 4 (FAULT 2): "a 53 with another n, a byte without sign, is as long as that tells" */
    static void lengthByAnotherN() {
        for (int n = 0; n <= 113; n++) {
            int[] code = new int[7 + n];
            code[0] = 21;
            code[2] = 53;
            code[3] = n;
            code[5 + n] = 49;
            code[6 + n] = 49;
            code[1] = 5 + n;
            judge("on right behind a 53 with " + n, n >= 1 && n <= 8 ? GOOD : 2, code);
            code[1] = 4 + n;
            judge("on at the last byte of a 53 with " + n, 0, code);
        }
        for (int n = 114; n <= 255; n++) {
            int[] code = new int[114];
            Arrays.fill(code, 49);
            code[0] = 21;
            code[2] = 53;
            code[3] = n;
            for (int p = 4; p < 114; p++) {
                code[1] = p;
                judge("on at " + p + " behind a 53 with " + n, 0, code);
            }
            code[1] = 2;
            judge("on at a 53 with " + n, 2, code);
        }
    }

    /** Promise 4 (FAULT 2): "names a LOCAL, class, FIELD, METHOD, SELECTOR or n that there is not" (a LOCAL) */
    static void noSuchLocal() {
        int[] ops = {3, 4, 20};
        for (int op : ops) {
            for (int locals = 0; locals <= 8; locals++) {
                for (int l = 0; l <= 255; l++) {
                    int[] code = op == 20 ? behindReturn(op, l, 1) : behindReturn(op, l);
                    byte[] file = new FileMaker().plain(49).method(FileMaker.types(), 0, locals, 8, code).plain(49).bytes();
                    faultAt(op + " with LOCAL " + l + " of " + locals, file, l < locals ? GOOD : 1, 1);
                }
            }
        }
    }

    /** Promise 4 (FAULT 2): "names a LOCAL, class, FIELD, METHOD, SELECTOR or n that there is not" (a class) */
    static void noSuchClass() {
        int[] ops = {38, 39, 40, 45, 46};
        for (int op : ops) {
            for (int classes = 0; classes <= 8; classes++) {
                for (int c = 0; c <= 255; c++) {
                    FileMaker maker = new FileMaker();
                    for (int k = 0; k < classes; k++) {
                        maker.type(-1, 1);
                    }
                    int[] code = op == 39 || op == 40 ? behindReturn(op, c, 0) : behindReturn(op, c);
                    faultAt(op + " with class " + c + " of " + classes, maker.plain(code).bytes(), c < classes ? GOOD : 1, 0);
                }
            }
        }
    }

    /** Promise 4 (FAULT 2): "names a LOCAL, class, FIELD, METHOD, SELECTOR or n that there is not" (a FIELD) */
    static void noSuchField() {
        int[] fields = {0, 4, 8, 3, 1};
        for (int op = 39; op <= 40; op++) {
            for (int c = 0; c < fields.length; c++) {
                for (int f = 0; f <= 255; f++) {
                    byte[] file = new FileMaker().type(-1).type(0, 1, 1, 1, 1).type(1, 2, 2, 2, 2).type(-1, 1, 1, 1).type(0, 1)
                        .plain(behindReturn(op, c, f)).bytes();
                    faultAt(op + " with FIELD " + f + " of class " + c, file, f < fields[c] ? GOOD : 1, 0);
                }
            }
        }
    }

    /** Promise 5 (CODE): "f: a FIELD of it (its SUPER's first)" */
    static void fieldsOfSuperFirst() {
        KindJudge judge = Check.good("FIELDS of a SUPER's SUPER", new FileMaker().type(-1, 1).type(0, 2).type(1, 16)
            .plain(2, 39, 2, 0, 2, 39, 2, 1, 2, 39, 2, 2, 49).bytes());
        int[] due = {1, 2, 16};
        for (int f = 0; f < due.length; f++) {
            Check.due("FIELD " + f, judge.kind(0, 12, 100 + f), due[f]);
        }
    }

    /** Promise 4 (FAULT 2): "names a LOCAL, class, FIELD, METHOD, SELECTOR or n that there is not" (a METHOD) */
    static void noSuchMethod() {
        for (int methods = 1; methods <= 16; methods++) {
            for (int m = 0; m <= 255; m++) {
                FileMaker maker = new FileMaker().plain(behindReturn(47, m));
                for (int k = 1; k < methods; k++) {
                    maker.plain(49);
                }
                faultAt("METHOD " + m + " of " + methods, maker.bytes(), m < methods ? GOOD : 1, 0);
            }
        }
    }

    /** Promise 4 (FAULT 2): "names a LOCAL, class, FIELD, METHOD, SELECTOR or n that there is not" (a SELECTOR) */
    static void noSuchSelector() {
        for (int selectors = 0; selectors <= 8; selectors++) {
            for (int s = 0; s <= 255; s++) {
                FileMaker maker = new FileMaker().plain(behindReturn(48, s));
                for (int k = 0; k < selectors; k++) {
                    maker.selector(0);
                }
                faultAt("SELECTOR " + s + " of " + selectors, maker.bytes(), s < selectors ? GOOD : 1, 0);
            }
        }
    }

    /** Promise 4 (CODE): "53 n p0 .. pn: x >, on at px, if x is 0 .. n - 1, else at pn (n 1 .. 8)." */
    static void noSuchN() {
        for (int n = 0; n <= 115; n++) {
            int[] code = new int[5 + n];
            code[0] = 49;
            code[1] = 53;
            code[2] = n;
            code[4 + n] = 49;
            judge("n " + n, n >= 1 && n <= 8 ? GOOD : 1, code);
        }
    }

    /** Promise 4 (FAULT 2): "goes on at a PLACE where none begins" (by a jump) */
    static void jumpsWhereNoneBegins() {
        for (int op = 21; op <= 37; op++) {
            for (int p = 0; p <= 255; p++) {
                // INSTRUCTIONS begin at 0, 1, 3 and 6
                boolean begins = p == 0 || p == 1 || p == 3 || p == 6;
                judge(op + " to " + p, begins ? GOOD : 1, 49, op, p, 1, 0, 0, 49);
            }
        }
    }

    /** Promise 4 (FAULT 2): "goes on at a PLACE where none begins" (by each one of a 53) */
    static void choicesWhereNoneBegins() {
        for (int n = 1; n <= 8; n++) {
            for (int k = 0; k <= n; k++) {
                for (int p = 0; p <= 255; p++) {
                    int[] code = new int[n + 5];
                    code[0] = 49;
                    code[1] = 53;
                    code[2] = n;
                    code[3 + k] = p;
                    code[n + 4] = 49;
                    boolean begins = p == 0 || p == 1 || p == n + 4;
                    judge("p" + k + " of " + n + " is " + p, begins ? GOOD : 1, code);
                }
            }
        }
    }

    /** Promise 4 (FAULT 2): "goes on at a PLACE where none begins" (at the end, and in the CODE of the next METHOD) */
    static void onBehindTheEnd() {
        int[] longest = new int[120];
        Arrays.fill(longest, 49);
        longest[0] = 21;
        for (int p = 0; p <= 255; p++) {
            longest[1] = p;
            byte[] file = new FileMaker().plain(longest).plain(49, 49, 49).bytes();
            faultAt("on at " + p + " of 120", file, p < 120 && p != 1 ? GOOD : 0, 0);
        }
    }

    /** Promise 4 (FAULT 2): "or ends the CODE without being 21, 49, 50, 53" */
    static void endsTheCode() {
        for (int op = 0; op <= LAST_KNOWN; op++) {
            int[] code = new int[1 + SIZES[op]];
            code[0] = 49;
            code[1] = op;
            if (op == LAST_KNOWN) {
                code[2] = 1;
            }
            boolean mayEnd = op == 21 || op == 49 || op == 50 || op == 53;
            judge(op + " ends", mayEnd ? GOOD : 1, code);
        }
    }

    /** Promise 4 (FAULT 2): "(All INSTRUCTIONS are looked at; one that is none begins at its PLACE all the same.)" */
    static void allAreLookedAt() {
        judge("never come to, an unknown byte", 1, 49, 54);
        judge("never come to, no such LOCAL", 1, 49, 3, 3, 49);
        judge("never come to, where none begins", 1, 49, 21, 2);
        judge("never come to, ends the CODE", 1, 49, 5);
        judge("on at an unknown byte: that one is told", 3, 21, 3, 49, 54);
        judge("on at one that is short: that one is told", 3, 21, 3, 49, 20, 0);
        judge("on at a short 53: that one is told", 3, 21, 3, 49, 53);
        judge("on at an unknown byte at the beginning", 0, 54, 21, 0);
    }

    public static void main(String[] args) {
        Check.all(CodeEdgeTests.class);
    }
}
