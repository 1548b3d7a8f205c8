import java.util.ArrayList;
import java.util.List;

/**
 * What each INSTRUCTION may take, by every KIND that there can be in each place, and the KIND that it puts.
 * KINDS by letters: I INT, A ARRAY, N NULL, Y ANY, P REF 0, Q REF 1 (below 0), R REF 2 (alone), O NO.
 */
public final class KindTests {
    private static final String KINDS = "IANYPQRO";
    private static final int[] NUMBERS = {1, 2, 3, 15, 16, 17, 18, 0};
    private static final String ANYTHING = "IANYPQR";
    private static final String OBJECT = "NYPQR";
    private static final int NOTHING = -1;
    private static final int FIRST_TAKEN = -2;

    private final List<Integer> code = new ArrayList<>();

    private KindTests add(int... bytes) {
        for (int b : bytes) {
            code.add(b);
        }
        return this;
    }

    /** LOCALS 0 .. 3 are PARAMETERS: I, A, P, Q; then 4 becomes R, 5 ANY, 6 NULL; 7 stays NO. */
    private void setLocals() {
        add(38, 2, 4, 4);
        either(2, 4);
        add(4, 5, 2, 4, 6);
    }

    /** One LOCAL or the other comes to the STACK. */
    private void either(int one, int other) {
        int at = code.size();
        add(52, 22, at + 7, 3, one, 21, at + 9, 3, other);
    }

    private void push(char letter) {
        if (letter == 'O') {
            either(0, 6);
        } else {
            add(3, "IAPQRYN".indexOf(letter));
        }
    }

    private static byte[] file(int returned, List<Integer> code) {
        int[] row = new int[code.size()];
        for (int i = 0; i < row.length; i++) {
            row[i] = code.get(i);
        }
        return new FileMaker()
            .type(-1, 1, 2, 16, 17).type(0, 18).type(-1)
            .selector(17, 2, 16).selector(0).selector(1)
            .method(FileMaker.types(17, 2, 1), 16, 3, 1, 2, 50)
            .method(FileMaker.types(16, 2, 16), 17, 3, 1, 2, 50)
            .method(FileMaker.types(17), 0, 1, 0, 49)
            .method(FileMaker.types(1, 2, 16, 17), returned, 8, 8, row)
            .table(2, 0, 0, 0, 3, 0, 0, 0, 0)
            .bytes();
    }

    /** The INSTRUCTION with these letters on the STACK: whether it is WRONG, and what it puts. */
    private static void one(int[] instruction, String taken, boolean fit, int returned, int put) {
        KindTests made = new KindTests();
        made.setLocals();
        made.push('A');
        for (int i = 0; i < taken.length(); i++) {
            made.push(taken.charAt(i));
        }
        int place = made.code.size();
        int behind = place + instruction.length;
        for (int b : instruction) {
            made.add(b == NOTHING ? behind : b);
        }
        boolean returns = instruction[0] == 49 || instruction[0] == 50;
        if (!returns) {
            made.add(21, behind);
        }
        String what = "instruction " + instruction[0] + " takes " + taken;
        KindJudge judge = Check.loads(what, file(returned, made.code), fit ? 0 : 3, fit ? 0 : place, fit ? 0 : 3);
        if (fit && !returns) {
            Check.due(what + ": below it", judge.kind(3, behind, 100), 2);
            int kind = put == FIRST_TAKEN ? NUMBERS[KINDS.indexOf(taken.charAt(0))] : put;
            Check.due(what + ": puts", judge.kind(3, behind, 101), kind);
        }
    }

    /** All KINDS in all places; allowed: the letters for each one that is taken. */
    private static void all(int[] instruction, int returned, int put, String... allowed) {
        int combinations = 1 << 3 * allowed.length;
        for (int n = 0; n < combinations; n++) {
            StringBuilder taken = new StringBuilder();
            boolean fit = true;
            for (int i = 0; i < allowed.length; i++) {
                char letter = KINDS.charAt(n >> 3 * i & 7);
                taken.append(letter);
                fit &= allowed[i].indexOf(letter) >= 0;
            }
            one(instruction, taken.toString(), fit, returned, put);
        }
    }

    private static int[] of(int... instruction) {
        return instruction;
    }

    private static void ints() {
        for (int op = 8; op <= 18; op++) {
            all(of(op), 0, 1, "I", "I");
        }
        all(of(19), 0, 1, "I");
        for (int op = 22; op <= 27; op++) {
            all(of(op, NOTHING), 0, NOTHING, "I");
        }
        for (int op = 28; op <= 33; op++) {
            all(of(op, NOTHING), 0, NOTHING, "I", "I");
        }
        all(of(51), 0, NOTHING, "I");
        all(of(53, 1, NOTHING, NOTHING), 0, NOTHING, "I");
        one(of(0, 200), "", true, 0, 1);
        one(of(1, 200, 200), "", true, 0, 1);
        one(of(52), "", true, 0, 1);
        one(of(21, NOTHING), "", true, 0, NOTHING);
    }

    private static void moves() {
        one(of(2), "", true, 0, 3);
        int[] locals = {1, 2, 16, 17, 18, 15, 3, 0};
        for (int l = 0; l < 8; l++) {
            one(of(3, l), "", l != 7, 0, locals[l]);
            one(of(20, l, 1), "", l == 0, 0, NOTHING);
        }
        all(of(4, 7), 0, NOTHING, ANYTHING);
        all(of(5), 0, NOTHING, ANYTHING);
        all(of(6), 0, FIRST_TAKEN, ANYTHING);
        swaps();
    }

    private static void swaps() {
        for (int n = 0; n < 64; n++) {
            char x = KINDS.charAt(n & 7);
            char y = KINDS.charAt(n >> 3);
            one(of(7), "" + x + y, x != 'O' && y != 'O', 0, NUMBERS[KINDS.indexOf(y)]);
        }
    }

    private static void objects() {
        for (int op = 34; op <= 35; op++) {
            all(of(op, NOTHING), 0, NOTHING, "ANYPQR");
        }
        one(of(38, 1), "", true, 0, 17);
        for (int c = 0; c < 3; c++) {
            all(of(45, c), 0, 1, OBJECT);
            all(of(46, c), 0, 16 + c, OBJECT);
        }
        all(of(39, 0, 0), 0, 1, "NPQ");
        all(of(39, 0, 1), 0, 2, "NPQ");
        all(of(39, 1, 3), 0, 17, "NQ");
        all(of(39, 1, 4), 0, 18, "NQ");
        all(of(40, 0, 0), 0, NOTHING, "NPQ", "I");
        all(of(40, 0, 1), 0, NOTHING, "NPQ", "AN");
        all(of(40, 0, 2), 0, NOTHING, "NPQ", "NPQ");
        all(of(40, 1, 3), 0, NOTHING, "NQ", "NQ");
        all(of(40, 1, 4), 0, NOTHING, "NQ", "NR");
    }

    /** 36 and 37 are not fit for an ARRAY and an object. */
    private static void same() {
        for (int op = 36; op <= 37; op++) {
            for (int n = 0; n < 64; n++) {
                char x = KINDS.charAt(n & 7);
                char y = KINDS.charAt(n >> 3);
                boolean fit = "AN".indexOf(x) >= 0 && "AN".indexOf(y) >= 0
                    || OBJECT.indexOf(x) >= 0 && OBJECT.indexOf(y) >= 0;
                one(of(op, NOTHING), "" + x + y, fit, 0, NOTHING);
            }
        }
    }

    private static void arrays() {
        all(of(41), 0, 2, "I");
        all(of(42), 0, 1, "AN", "I");
        all(of(43), 0, NOTHING, "AN", "I", "I");
        all(of(44), 0, 1, "AN");
    }

    private static void calls() {
        all(of(47, 0), 0, 16, "NQ", "AN", "I");
        all(of(47, 2), 0, NOTHING, "NQ");
        all(of(48, 0), 0, 17, "PQ", "AN", "NPQ");
        all(of(48, 1), 0, NOTHING, "Q");
        all(of(48, 2), 0, NOTHING, "");
        int[] returned = {0, 1, 2, 16, 17, 18};
        String[] fit = {"", "I", "AN", "NPQ", "NQ", "NR"};
        for (int i = 0; i < returned.length; i++) {
            all(of(50), returned[i], NOTHING, fit[i]);
            one(of(49), "", i == 0, returned[i], NOTHING);
        }
    }

    public static void main(String[] args) {
        ints();
        moves();
        objects();
        same();
        arrays();
        calls();
        Check.end();
    }
}
