import java.util.ArrayList;
import java.util.List;

/**
 * KINDS: what each INSTRUCTION may take, by every KIND that there can be in each place, the KIND that it puts, and
 * what comes of two where ways meet.
 * KINDS by letters: I INT, A ARRAY, N NULL, Y ANY, P REF 0, Q REF 1 (below 0), R REF 2 (alone), O NO.
 */
public final class KindEdgeTests {
    private static final String KINDS = "IANYPQRO";
    private static final int[] NUMBERS = {1, 2, 3, 15, 16, 17, 18, 0};
    private static final String ANYTHING = "IANYPQR";
    private static final String OBJECT = "NYPQR";
    private static final int NOTHING = -1;
    private static final int FIRST_TAKEN = -2;

    private final List<Integer> code = new ArrayList<>();

    private KindEdgeTests add(int... bytes) {
        for (int b : bytes) {
            code.add(b);
        }
        return this;
    }

    /** LOCALS 0 .. 3 are PARAMETERS: I, A, P, Q; then 4 becomes R, 5 ANY, 6 NULL; 7 stays NO. */
    private KindEdgeTests setLocals() {
        add(38, 2, 4, 4);
        either(2, 4);
        return add(4, 5, 2, 4, 6);
    }

    /** One LOCAL or the other comes to the STACK. */
    private void either(int one, int other) {
        int at = code.size();
        add(52, 22, at + 7, 3, one, 21, at + 9, 3, other);
    }

    private KindEdgeTests push(char letter) {
        if (letter == 'O') {
            either(0, 6);
        } else {
            add(3, "IAPQRYN".indexOf(letter));
        }
        return this;
    }

    private KindEdgeTests push(String letters) {
        for (int i = 0; i < letters.length(); i++) {
            push(letters.charAt(i));
        }
        return this;
    }

    private static int number(char letter) {
        return NUMBERS[KINDS.indexOf(letter)];
    }

    private static byte[] file(int returned, List<Integer> code) {
        int[] row = new int[code.size()];
        for (int i = 0; i < row.length; i++) {
            row[i] = code.get(i);
        }
        return new FileMaker()
            .type(-1, 1, 2, 16, 17).type(0, 18).type(-1)
            .selector(17, 2, 16).selector(0).selector(1)
            .method(FileMaker.types(17, 2, 1), 16, 3, 1, 2, 50)
            .method(FileMaker.types(16, 2, 16), 17, 3, 1, 2, 50)
            .method(FileMaker.types(17), 0, 1, 0, 49)
            .method(FileMaker.types(1, 2, 16, 17), returned, 8, 8, row)
            .table(2, 0, 0, 0, 3, 0, 0, 0, 0)
            .bytes();
    }

    /** Adds the INSTRUCTION, and one for ever behind it if it goes on: whether it is WRONG. */
    private KindJudge judge(String what, int[] instruction, boolean fit, int returned) {
        int place = code.size();
        int behind = place + instruction.length;
        for (int b : instruction) {
            add(b == NOTHING ? behind : b);
        }
        if (instruction[0] != 49 && instruction[0] != 50) {
            add(21, behind);
        }
        return Check.loads(what, file(returned, code), fit ? 0 : 3, fit ? 0 : place, fit ? 0 : 3);
    }

    /** The INSTRUCTION with these letters on the STACK, above an ARRAY: whether it is WRONG, and what it puts. */
    private static void one(int[] instruction, String taken, boolean fit, int returned, int put) {
        KindEdgeTests made = new KindEdgeTests().setLocals().push('A').push(taken);
        int behind = made.code.size() + instruction.length;
        String what = "INSTRUCTION " + instruction[0] + " takes " + taken;
        KindJudge judge = made.judge(what, instruction, fit, returned);
        if (fit && instruction[0] != 49 && instruction[0] != 50) {
            Check.due(what + ": below it", judge.kind(3, behind, 100), 2);
            Check.due(what + ": puts", judge.kind(3, behind, 101), put == FIRST_TAKEN ? number(taken.charAt(0)) : put);
        }
    }

    /** All KINDS in all places; allowed: the letters for each one that is taken. */
    private static void all(int[] instruction, int returned, int put, String... allowed) {
        int combinations = 1 << 3 * allowed.length;
        for (int n = 0; n < combinations; n++) {
            StringBuilder taken = new StringBuilder();
            boolean fit = true;
            for (int i = 0; i < allowed.length; i++) {
                char letter = KINDS.charAt(n >> 3 * i & 7);
                taken.append(letter);
                fit &= allowed[i].indexOf(letter) >= 0;
            }
            one(instruction, taken.toString(), fit, returned, put);
        }
    }

    private static int[] of(int... instruction) {
        return instruction;
    }

    /** Promise 4 (VERIFYING): "x, y, i of 8 .. 33, 41 .. 43, 51, 53 (but x of 42, 43), the LOCAL of 20: INT" */
    static void takesInts() {
        for (int op = 8; op <= 18; op++) {
            all(of(op), 0, 1, "I", "I");
        }
        all(of(19), 0, 1, "I");
        for (int l = 0; l < 8; l++) {
            one(of(20, l, 1), "", l == 0, 0, NOTHING);
        }
        for (int op = 22; op <= 27; op++) {
            all(of(op, NOTHING), 0, NOTHING, "I");
        }
        for (int op = 28; op <= 33; op++) {
            all(of(op, NOTHING), 0, NOTHING, "I", "I");
        }
        all(of(41), 0, 2, "I");
        all(of(42), 0, 1, "AN", "I");
        all(of(43), 0, NOTHING, "AN", "I", "I");
        all(of(51), 0, NOTHING, "I");
        all(of(53, 1, NOTHING, NOTHING), 0, NOTHING, "I");
    }

    /** Promise 4 (VERIFYING): "x of 42 .. 44: as ARRAY" */
    static void takesArrays() {
        for (int i = 0; i < KINDS.length(); i++) {
            String x = KINDS.substring(i, i + 1);
            boolean fit = "AN".contains(x);
            one(of(42), x + "I", fit, 0, 1);
            one(of(43), x + "II", fit, 0, NOTHING);
            one(of(44), x, fit, 0, 1);
        }
    }

    /** Promise 4 (VERIFYING): "of 34 .. 37: any but INT and NO" */
    static void takesAnyButIntAndNo() {
        for (int op = 34; op <= 35; op++) {
            all(of(op, NOTHING), 0, NOTHING, "ANYPQR");
        }
        for (int op = 36; op <= 37; op++) {
            for (int i = 0; i < KINDS.length(); i++) {
                String x = KINDS.substring(i, i + 1);
                boolean fit = !"IO".contains(x);
                one(of(op, NOTHING), x + "N", fit, 0, NOTHING);
                one(of(op, NOTHING), "N" + x, fit, 0, NOTHING);
            }
        }
    }

    /** Promise 4 (VERIFYING): "(of 36, 37 both, and not an ARRAY and an ANY or REF)" */
    static void takesTwoThatMayBeTheSame() {
        for (int op = 36; op <= 37; op++) {
            for (int n = 0; n < 64; n++) {
                String x = KINDS.substring(n & 7, (n & 7) + 1);
                String y = KINDS.substring(n >> 3, (n >> 3) + 1);
                boolean fit = "AN".contains(x) && "AN".contains(y) || OBJECT.contains(x) && OBJECT.contains(y);
                one(of(op, NOTHING), x + y, fit, 0, NOTHING);
            }
        }
    }

    /** Promise 4 (VERIFYING): "of 45, 46: any but INT, ARRAY, NO" */
    static void takesObjects() {
        for (int c = 0; c < 3; c++) {
            all(of(45, c), 0, 1, OBJECT);
            all(of(46, c), 0, 16 + c, OBJECT);
        }
    }

    /** Promise 4 (VERIFYING): "of 39, 40: as REF c" */
    static void takesObjectsOfTheClass() {
        all(of(39, 0, 0), 0, 1, "NPQ");
        all(of(39, 0, 1), 0, 2, "NPQ");
        all(of(39, 1, 3), 0, 17, "NQ");
        all(of(39, 1, 4), 0, 18, "NQ");
        for (int i = 0; i < KINDS.length(); i++) {
            String x = KINDS.substring(i, i + 1);
            one(of(40, 0, 0), x + "I", "NPQ".contains(x), 0, NOTHING);
            one(of(40, 1, 0), x + "I", "NQ".contains(x), 0, NOTHING);
        }
    }

    /** Promise 4 (VERIFYING): "y of 40: as the FIELD's TYPE" */
    static void takesTheFieldsType() {
        all(of(40, 0, 0), 0, NOTHING, "NPQ", "I");
        all(of(40, 0, 1), 0, NOTHING, "NPQ", "AN");
        all(of(40, 0, 2), 0, NOTHING, "NPQ", "NPQ");
        all(of(40, 1, 3), 0, NOTHING, "NQ", "NQ");
        all(of(40, 1, 4), 0, NOTHING, "NQ", "NR");
    }

    /** Promise 4 (VERIFYING): "the PARAMETERS of 47, 48: as their TYPES" */
    static void takesParameters() {
        all(of(47, 0), 0, 16, "NQ", "AN", "I");
        all(of(47, 2), 0, NOTHING, "NQ");
        all(of(48, 0), 0, 17, "PQ", "AN", "NPQ");
    }

    /** Promise 4 (CODE): "47 m: the METHOD's PARAMETERS (the last one on top)" .. "48 s: x, the SELECTOR's PARAMETERS" */
    static void takesTheLastParameterOnTop() {
        one(of(47, 0), "QAI", true, 0, 16);
        one(of(47, 0), "IAQ", false, 0, 16);
        one(of(48, 0), "PAQ", true, 0, 17);
        one(of(48, 0), "PQA", false, 0, 17);
        one(of(48, 0), "AQP", false, 0, 17);
    }

    /** Promise 4 (VERIFYING): "x of 48: a REF whose class has a METHOD for the SELECTOR" */
    static void takesOneWithAMethod() {
        for (int i = 0; i < KINDS.length(); i++) {
            String x = KINDS.substring(i, i + 1);
            one(of(48, 0), x + "AP", "PQ".contains(x), 0, 17);
            one(of(48, 1), x, "Q".contains(x), 0, NOTHING);
            one(of(48, 2), x, false, 0, NOTHING);
        }
    }

    /** Promise 4 (VERIFYING): "of 50: as the TYPE that is RETURNED, which must not be 0 (of 49: must be)" */
    static void returnsItsType() {
        int[] returned = {0, 1, 2, 16, 17, 18};
        String[] fit = {"", "I", "AN", "NPQ", "NQ", "NR"};
        for (int i = 0; i < returned.length; i++) {
            all(of(50), returned[i], NOTHING, fit[i]);
            one(of(49), "", i == 0, returned[i], NOTHING);
        }
    }

    /** Promise 4 (VERIFYING): "of 3 to 7: any but NO" */
    static void takesAnyButNo() {
        for (int l = 0; l < 8; l++) {
            one(of(3, l), "", l != 7, 0, number("IAPQRYNO".charAt(l)));
        }
        all(of(4, 7), 0, NOTHING, ANYTHING);
        all(of(5), 0, NOTHING, ANYTHING);
        all(of(6), 0, FIRST_TAKEN, ANYTHING);
        for (int n = 0; n < 64; n++) {
            char x = KINDS.charAt(n & 7);
            char y = KINDS.charAt(n >> 3);
            one(of(7), "" + x + y, x != 'O' && y != 'O', 0, number(y));
        }
    }

    /** Promise 5 (VERIFYING): "0, 1, 8 .. 19, 42, 44, 45, 52: INT, 2: NULL" */
    static void putsIntOrNull() {
        one(of(0, 200), "", true, 0, 1);
        one(of(1, 200, 200), "", true, 0, 1);
        one(of(52), "", true, 0, 1);
        for (int op = 8; op <= 18; op++) {
            one(of(op), "II", true, 0, 1);
        }
        one(of(19), "I", true, 0, 1);
        one(of(42), "NI", true, 0, 1);
        one(of(44), "N", true, 0, 1);
        one(of(45, 2), "N", true, 0, 1);
        one(of(2), "", true, 0, 3);
        one(of(21, NOTHING), "", true, 0, NOTHING);
    }

    /** Promise 5 (VERIFYING): "3, 6, 7: those that were" */
    static void putsThoseThatWere() {
        for (int i = 0; i < ANYTHING.length(); i++) {
            char x = ANYTHING.charAt(i);
            one(of(3, "IAPQRYN".indexOf(x)), "", true, 0, number(x));
            both("6 of " + x, of(6), "" + x, number(x), number(x));
            for (int k = 0; k < ANYTHING.length(); k++) {
                char y = ANYTHING.charAt(k);
                both("7 of " + x + y, of(7), "" + x + y, number(y), number(x));
            }
        }
    }

    private static void both(String what, int[] instruction, String taken, int lower, int upper) {
        KindEdgeTests made = new KindEdgeTests().setLocals().push(taken);
        int behind = made.code.size() + instruction.length;
        KindJudge judge = made.judge(what, instruction, true, 0);
        Check.due(what + ", the lower one", judge.kind(3, behind, 100), lower);
        Check.due(what + ", the upper one", judge.kind(3, behind, 101), upper);
    }

    /** Promise 5 (VERIFYING): "38, 46: REF c, 39: the FIELD's TYPE, 41: ARRAY, 47, 48: what is RETURNED" */
    static void putsByWhatIsNamed() {
        for (int c = 0; c < 3; c++) {
            one(of(38, c), "", true, 0, 16 + c);
            one(of(46, c), "Y", true, 0, 16 + c);
        }
        int[] fields = {1, 2, 16, 17, 18};
        for (int f = 0; f < fields.length; f++) {
            one(of(39, 1, f), "N", true, 0, fields[f]);
        }
        one(of(41), "I", true, 0, 2);
        one(of(47, 0), "NNI", true, 0, 16);
        one(of(47, 2), "N", true, 0, NOTHING);
        one(of(48, 0), "QNN", true, 0, 17);
        one(of(48, 1), "Q", true, 0, NOTHING);
    }

    /** Promise 5 (CODE): "What is RETURNED comes to the STACK of the one that called." (and nothing, if nothing is) */
    static void returnedComesToTheStack() {
        int[][] calls = {{47, 0}, {47, 1}, {47, 2}, {48, 0}, {48, 1}};
        String[] taken = {"QAI", "PAP", "Q", "PAP", "Q"};
        int[] returned = {16, 17, NOTHING, 17, NOTHING};
        for (int i = 0; i < calls.length; i++) {
            KindEdgeTests made = new KindEdgeTests().setLocals().push(taken[i]);
            int behind = made.code.size() + 2;
            KindJudge judge = made.judge("call " + i, calls[i], true, 0);
            Check.due("call " + i + ": height behind it", Check.look(judge, 3, behind, 5), returned[i] == NOTHING ? 0 : 1);
            Check.due("call " + i + ": KIND behind it", judge.kind(3, behind, 100), returned[i]);
        }
    }

    /** Promise 5 (VERIFYING): "the LOCAL of 4 becomes x's KIND" */
    static void localBecomesWhatIsTaken() {
        for (int i = 0; i < ANYTHING.length(); i++) {
            for (int l = 0; l < 8; l++) {
                KindEdgeTests made = new KindEdgeTests().setLocals().push(ANYTHING.charAt(i));
                int behind = made.code.size() + 2;
                KindJudge judge = made.judge(ANYTHING.charAt(i) + " to LOCAL " + l, of(4, l), true, 0);
                for (int k = 0; k < 8; k++) {
                    int due = number(k == l ? ANYTHING.charAt(i) : "IAPQRYNO".charAt(k));
                    Check.due(ANYTHING.charAt(i) + " to LOCAL " + l + ": LOCAL " + k, judge.kind(3, behind, k), due);
                }
            }
        }
    }

    /** Two ways come together, with one KIND and with the other: in LOCAL 7, and on the STACK. */
    private static void together(char a, char b, char due) {
        KindEdgeTests made = new KindEdgeTests().setLocals().push("AI");
        int jump = made.code.size();
        made.add(22, 0).push(a).wayToLocal(a);
        int end = made.code.size();
        made.add(21, 0);
        made.code.set(jump + 1, made.code.size());
        made.push(b).wayToLocal(b);
        made.code.set(end + 1, made.code.size());
        int place = made.code.size();
        KindJudge judge = made.judge(a + " and " + b, of(21, place), true, 0);
        Check.due(a + " and " + b + ": LOCAL 7", judge.kind(3, place, 7), number(due));
        Check.due(a + " and " + b + ": the STACK", judge.kind(3, place, 101), number(due));
        Check.due(a + " and " + b + ": below", judge.kind(3, place, 100), 2);
        Check.due(a + " and " + b + ": as meet() has it", judge.meet(number(a), number(b)), number(due));
    }

    private void wayToLocal(char letter) {
        if (letter != 'O') {
            push(letter).add(4, 7);
        }
    }

    private static void togetherBothWays(char a, char b, char due) {
        together(a, b, due);
        together(b, a, due);
    }

    /** Promise 5 (VERIFYING): "of the same KIND that" */
    static void sameKinds() {
        for (int i = 0; i < KINDS.length(); i++) {
            together(KINDS.charAt(i), KINDS.charAt(i), KINDS.charAt(i));
        }
    }

    /** Promise 5 (VERIFYING): "of NULL and ARRAY, ANY or REF the other one" */
    static void nullAndAnother() {
        String others = "AYPQR";
        for (int i = 0; i < others.length(); i++) {
            togetherBothWays('N', others.charAt(i), others.charAt(i));
        }
    }

    /** Promise 5 (VERIFYING): "of two of REF, ANY: REF of the lowest class that both are or are BELOW, ANY without one" */
    static void twoObjects() {
        togetherBothWays('P', 'Q', 'P');
        togetherBothWays('P', 'R', 'Y');
        togetherBothWays('Q', 'R', 'Y');
        togetherBothWays('Y', 'P', 'Y');
        togetherBothWays('Y', 'Q', 'Y');
        togetherBothWays('Y', 'R', 'Y');
    }

    /** Promise 5 (VERIFYING): "else NO" */
    static void elseNo() {
        String[] pairs = {"IA", "IN", "IY", "IP", "IQ", "IR", "IO", "AY", "AP", "AQ", "AR", "AO", "NO", "YO", "PO", "QO", "RO"};
        for (String pair : pairs) {
            togetherBothWays(pair.charAt(0), pair.charAt(1), 'O');
        }
    }

    /**
     * With all it takes on the STACK and nothing below it is right, with fewer it is WRONG. The last LOCALS have what
     * is not there, for a STACK that is kept behind them.
     */
    private static void fewer(int returned, String taken, int... instruction) {
        for (int less = 0; less <= taken.length(); less++) {
            KindEdgeTests made = new KindEdgeTests().setLocals();
            for (int i = 0; i < less; i++) {
                made.push(taken.charAt(i)).add(4, 8 - less + i);
            }
            String left = taken.substring(less);
            made.push(left)
                .judge("INSTRUCTION " + instruction[0] + " has " + left + " of " + taken, instruction, less == 0, returned);
        }
    }

    /** Promise 4 (VERIFYING): "is WRONG, if it CLASHES, takes more than there is" */
    static void takesMoreThanThereIs() {
        fewer(0, "I", 4, 0);
        fewer(0, "I", 5);
        fewer(0, "I", 6);
        for (int op = 7; op <= 18; op++) {
            fewer(0, "II", op);
        }
        fewer(0, "I", 19);
        for (int op = 22; op <= 27; op++) {
            fewer(0, "I", op, NOTHING);
        }
        for (int op = 28; op <= 33; op++) {
            fewer(0, "II", op, NOTHING);
        }
        for (int op = 34; op <= 37; op++) {
            fewer(0, op <= 35 ? "A" : "AA", op, NOTHING);
        }
        fewer(0, "P", 39, 0, 0);
        fewer(0, "PI", 40, 0, 0);
        fewer(0, "I", 41);
        fewer(0, "AI", 42);
        fewer(0, "AII", 43);
        fewer(0, "A", 44);
        fewer(0, "P", 45, 0);
        fewer(0, "P", 46, 0);
        fewer(0, "QAI", 47, 0);
        fewer(0, "PAP", 48, 0);
        fewer(1, "I", 50);
        fewer(0, "I", 51);
        fewer(0, "I", 53, 1, NOTHING, NOTHING);
    }

    public static void main(String[] args) {
        Check.all(KindEdgeTests.class);
    }
}
