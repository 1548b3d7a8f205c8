import java.util.Arrays;

/** VERIFYING over all ways: the beginning, heights of the STACK, CLASHES, and what can't be come to. */
public final class WayEdgeTests {
    private static final int GOOD = -1;

    /** FAULT 3 at a PLACE of METHOD 1, whose STACK has so many at most, or none. */
    private static KindJudge judge(String what, int place, int stack, int... code) {
        byte[] file = new FileMaker().type(-1, 1, 17).type(0, 2).type(0)
            .method(FileMaker.types(), 1, 0, 1, 0, 1, 50)
            .method(FileMaker.types(1, 2, 16, 17), 0, 8, stack, code)
            .method(FileMaker.types(1, 1), 1, 2, 1, 0, 1, 50)
            .bytes();
        boolean good = place == GOOD;
        return Check.loads(what, file, good ? 0 : 3, good ? 0 : place, good ? 0 : 1);
    }

    /** As many nulls, then the INSTRUCTION, then the METHOD returns. */
    private static int[] behindNulls(int nulls, int... instruction) {
        int[] pushes = new int[nulls];
        Arrays.fill(pushes, 2);
        return FileMaker.join(pushes, instruction, new int[] {49});
    }

    /** Promise 4 (VERIFYING): "VERIFYING (if no METHOD has a FAULT 2)" */
    static void faultTwoFirst() {
        Check.loads("both in one METHOD", new FileMaker().plain(5, 49, 54).bytes(), 2, 2, 0);
        Check.loads("FAULT 3 in an earlier METHOD", new FileMaker().plain(5, 49).plain(49).plain(49, 54).bytes(), 2, 1, 2);
        Check.loads("FAULT 3 alone", new FileMaker().plain(5, 49).plain(49).plain(49, 49).bytes(), 3, 0, 0);
    }

    /** Promise 5 (VERIFYING): "At PLACE 0 the STACK is empty, the first LOCALS have the PARAMETERS' TYPES, the others NO." */
    static void atPlaceZero() {
        int[] types = {16, 2, 1, 17};
        for (int parameters = 0; parameters <= 4; parameters++) {
            for (int locals = parameters; locals <= 8; locals++) {
                String what = parameters + " PARAMETERS, " + locals + " LOCALS";
                KindJudge judge = Check.good(what, new FileMaker().type(-1).type(-1)
                    .method(Arrays.copyOf(types, parameters), 0, locals, 8, 49).bytes());
                for (int l = 0; l < locals; l++) {
                    Check.due(what + ": LOCAL " + l, judge.kind(0, 0, l), l < parameters ? types[l] : 0);
                }
                Check.due(what + ": the STACK", judge.kind(0, 0, 100), -1);
                Check.due(what + ": its height", Check.look(judge, 0, 0, 5), 0);
            }
        }
    }

    /**
     * Promise 5 (VERIFYING): "Before an INSTRUCTION that may be come to, the LOCALS and the STACK have KINDS"
     * (8 and 8 at once)
     */
    static void allLocalsAndAFullStack() {
        int[] code = {2, 4, 4, 52, 4, 5, 3, 1, 4, 6, 3, 3, 4, 7};
        for (int l = 0; l < 8; l++) {
            code = FileMaker.join(code, new int[] {3, l});
        }
        KindJudge judge = judge("each LOCAL on the STACK", GOOD, 8, FileMaker.join(code, new int[] {49}));
        int[] kinds = {1, 2, 16, 17, 3, 1, 2, 17};
        for (int i = 0; i < 8; i++) {
            Check.due("LOCAL " + i, judge.kind(1, code.length, i), kinds[i]);
            Check.due("STACK " + i, judge.kind(1, code.length, 100 + i), kinds[i]);
        }
        int[] one = allOf(1);
        int[] other = allOf(2);
        int end = 3 + one.length + 2 + other.length;
        judge = judge("two ways with another class in each", GOOD, 8, FileMaker.join(
            new int[] {52, 22, 5 + one.length}, one, new int[] {21, end}, other, new int[] {49}));
        for (int i = 0; i < 8; i++) {
            Check.due("LOCAL " + i + " of both", judge.kind(1, end, i), 16);
            Check.due("STACK " + i + " of both", judge.kind(1, end, 100 + i), 16);
        }
    }

    /** An object of the class comes to each LOCAL, and eight to the STACK. */
    private static int[] allOf(int c) {
        int[] code = {};
        for (int l = 0; l < 8; l++) {
            code = FileMaker.join(code, new int[] {38, c, 4, l});
        }
        for (int i = 0; i < 8; i++) {
            code = FileMaker.join(code, new int[] {38, c});
        }
        return code;
    }

    /** Promise 5 (VERIFYING): "Behind an INSTRUCTION there is what was before, less what it takes, and what it puts" */
    static void behindAnInstruction() {
        int[] locals = {1, 2, 16, 17, 0, 0, 0, 0};
        int[][] instructions = {{3, 3}, {5}, {6}, {19}, {8}, {44}, {51}, {47, 2}, {20, 0, 1}, {38, 2}};
        int[][] pushes = {{}, {2}, {52}, {52}, {52, 52}, {2}, {52}, {52, 52}, {}, {}};
        int[][] put = {{17}, {}, {1, 1}, {1}, {1}, {1}, {}, {1}, {}, {18}};
        for (int k = 0; k < instructions.length; k++) {
            int[] code = FileMaker.join(new int[] {2, 3, 1}, pushes[k], instructions[k], new int[] {49});
            String what = "behind " + instructions[k][0];
            KindJudge judge = judge(what, GOOD, 8, code);
            int behind = code.length - 1;
            for (int l = 0; l < locals.length; l++) {
                Check.due(what + ": LOCAL " + l, judge.kind(1, behind, l), locals[l]);
            }
            Check.due(what + ": the lowest", judge.kind(1, behind, 100), 3);
            Check.due(what + ": the next", judge.kind(1, behind, 101), 2);
            for (int i = 0; i <= put[k].length; i++) {
                Check.due(what + ": put " + i, judge.kind(1, behind, 102 + i), i < put[k].length ? put[k][i] : -1);
            }
        }
    }

    /** Promise 5 (VERIFYING): "Where several ways come together (at PLACE 0 the beginning, too)" */
    static void beginningToo() {
        KindJudge judge = judge("all LOCALS change, then back to 0", GOOD, 8,
            2, 4, 0,                // 0, 1: LOCAL 0, INT, becomes NULL
            2, 4, 1,                // 3, 4: LOCAL 1, ARRAY, becomes NULL
            38, 1, 4, 2,            // 6, 8: LOCAL 2, REF 0, becomes REF 1
            38, 2, 4, 3,            // 10, 12: LOCAL 3, REF 1, becomes REF 2
            52, 4, 4,               // 14, 15: LOCAL 4, NO, becomes INT
            21, 0);                 // 17
        int[] atZero = {0, 2, 16, 16, 0, 0, 0, 0};
        int[] atEnd = {3, 3, 17, 18, 1, 0, 0, 0};
        for (int l = 0; l < 8; l++) {
            Check.due("at 0, LOCAL " + l, judge.kind(1, 0, l), atZero[l]);
            Check.due("at 17, LOCAL " + l, judge.kind(1, 17, l), atEnd[l]);
        }
        judge("LOCAL 4 is NO at the beginning", 0, 8, 3, 4, 5, 52, 4, 4, 21, 0);
        judge("one on the STACK, back to 0", 0, 8, 2, 21, 0);
        judge("none on the STACK, back to 0", GOOD, 8, 2, 5, 21, 0);
    }

    /** Promise 4 (VERIFYING): "If the STACKS are not of one height there, it CLASHES" */
    static void heightsDiffer() {
        judge("0 and 1", 5, 8, 52, 22, 5, 0, 1, 49);
        judge("1 and 1", GOOD, 8, 52, 22, 7, 0, 1, 21, 8, 2, 49);
        judge("1 and 2", 7, 8, 2, 52, 22, 7, 0, 1, 6, 49);
        judge("7 and 8", 11, 8, 2, 2, 2, 2, 2, 2, 2, 52, 22, 11, 2, 49);
        judge("0 and 8", 11, 8, 52, 22, 11, 2, 2, 2, 2, 2, 2, 2, 2, 49);
        judge("a loop that takes one", 2, 8, 2, 2, 5, 21, 2);
        judge("of three ways the last one differs", 13, 8, 52, 53, 2, 13, 8, 10, 49, 49, 21, 13, 2, 21, 13, 49);
        judge("what it does take is there by each way", 6, 8, 52, 52, 52, 22, 6, 6, 5, 49);
    }

    /** Promise 4 (VERIFYING): "behind one that CLASHES" .. "it CLASHES" */
    static void behindClash() {
        judge("right behind, then by a jump", 6, 8, 52, 22, 7, 2, 21, 7, 49, 5, 21, 6);
        judge("by a jump, ahead of it", 2, 8, 21, 3, 49, 52, 22, 7, 2, 21, 2);
        judge("two behind it", 2, 8, 21, 5, 49, 21, 2, 52, 22, 9, 2, 21, 3);
        judge("each way of a 53", 2, 8, 21, 4, 49, 49, 52, 22, 8, 2, 53, 1, 3, 2);
        judge("it meets one that does not", 0, 8, 52, 22, 4, 2, 21, 0);
    }

    /** Promise 4 (VERIFYING): "that takes more than there is" .. "it CLASHES" */
    static void behindOneThatTakesTooMuch() {
        judge("none there", 2, 8, 21, 3, 49, 5, 21, 2);
        judge("one of two", 2, 8, 21, 3, 49, 52, 8, 21, 2);
        judge("and it puts one", 2, 8, 21, 3, 49, 19, 21, 2);
        judge("as many would be left as by another way", 3, 8, 52, 22, 6, 49, 49, 49, 52, 8, 21, 3);
    }

    /** Promise 4 (VERIFYING): "or after which the STACK would have more than it may, it CLASHES" */
    static void behindOneThatIsTooHigh() {
        judge("a STACK of none", 2, 0, 21, 3, 49, 2, 21, 2);
        judge("a STACK of one", 2, 1, 21, 3, 49, 2, 6, 21, 2);
        judge("a STACK of eight", 2, 8, 21, 3, 49, 2, 2, 2, 2, 2, 2, 2, 2, 2, 21, 2);
    }

    /** Promise 5 (VERIFYING): "This is gone on with until nothing changes" */
    static void untilNothingChanges() {
        KindJudge judge = judge("REF 2 goes through all LOCALS", GOOD, 8, throughAllLocals(new int[] {38, 1}, new int[] {38, 2}));
        for (int l = 0; l < 8; l++) {
            Check.due("LOCAL " + l, judge.kind(1, 32, l), 16);
        }
        judge("NO goes through all LOCALS", 32, 8, throughAllLocals(new int[] {0, 5}, new int[] {38, 2}));
        int[] back = new int[120];
        for (int place = 0; place < 120; place += 2) {
            back[place] = 21;
            back[place + 1] = Math.max(0, place - 2);
        }
        back[1] = 118;
        back[2] = 49;
        back[3] = 49;
        judge = judge("back by one each time", GOOD, 8, back);
        Check.due("all but one are come to", judge.count(1, 0), 60);
        Check.due("one is not", judge.count(1, 1), 1);
    }

    /** All LOCALS become the one (0 .. 31); then, again and again, each the next one, the last the other (from 32 on). */
    private static int[] throughAllLocals(int[] one, int[] other) {
        int[] code = {};
        for (int l = 0; l < 8; l++) {
            code = FileMaker.join(code, one, new int[] {4, l});
        }
        for (int l = 0; l < 7; l++) {
            code = FileMaker.join(code, new int[] {3, l + 1, 4, l});
        }
        return FileMaker.join(code, other, new int[] {4, 7, 52, 22, 32, 49});
    }

    /** Promise 4 (VERIFYING): "(also behind what is WRONG)" */
    static void alsoBehindWrong() {
        judge("46 of an INT puts a REF all the same", 2, 8, 21, 4, 51, 49, 52, 46, 0, 21, 2);
        judge("19 of a null puts an INT all the same", 4, 8, 21, 3, 49, 2, 19, 5, 21, 2);
        judge("3 of NO puts NO", 2, 8, 21, 4, 5, 49, 3, 7, 21, 2);
        judge("4 of NO makes NO", 2, 8, 21, 5, 3, 1, 49, 3, 7, 4, 1, 21, 2);
        judge("39 of an INT puts the FIELD's TYPE", 2, 8, 21, 4, 44, 49, 52, 39, 0, 1, 21, 2);
        judge("a 47 with a null for an INT RETURNS an INT", 2, 8, 21, 4, 44, 49, 2, 2, 47, 2, 21, 2);
    }

    /** Promise 4 (VERIFYING): "An INSTRUCTION that may be come to is WRONG" */
    static void neverComeToIsNotWrong() {
        judge("takes more than there is", GOOD, 0, 49, 5, 49);
        judge("no room", GOOD, 0, 49, 2, 49);
        judge("not FIT", GOOD, 8, 49, 2, 19, 5, 49);
        judge("a LOCAL of NO", GOOD, 8, 49, 3, 7, 5, 49);
        judge("50, with nothing to be RETURNED", GOOD, 8, 49, 0, 1, 50);
        judge("it would CLASH with what is come to", GOOD, 8, 21, 3, 2, 49, 21, 2);
        judge("it would change what is come to", GOOD, 8, 21, 5, 52, 4, 2, 3, 2, 39, 0, 0, 5, 49);
        judge("behind a 53", GOOD, 8, 52, 53, 1, 6, 6, 5, 49);
        judge("come to after all", 1, 8, 52, 8, 49);
    }

    /** Promise 4 (VERIFYING): "the STACK would have more than it may" */
    static void stackWouldHaveMore() {
        int[][] pushes = {{0, 1}, {1, 1, 1}, {2}, {3, 0}, {38, 0}, {52}, {47, 0}};
        for (int stack = 0; stack <= 8; stack++) {
            for (int[] push : pushes) {
                String what = push[0] + " on a STACK of " + stack;
                judge(what + " that is full", stack, stack, behindNulls(stack, push));
                if (stack > 0) {
                    judge(what + " with room for one", GOOD, stack, behindNulls(stack - 1, push));
                }
            }
            if (stack > 0) {
                judge("6 on a full STACK of " + stack, stack, stack, behindNulls(stack, 6));
            }
            if (stack > 1) {
                judge("6 with room for one on a STACK of " + stack, GOOD, stack, behindNulls(stack - 1, 6));
            }
        }
    }

    /** Promise 4 (VERIFYING): "or after which the STACK would have more than it may" (what it takes makes room first) */
    static void takesAndPutsOnAFullStack() {
        judge("7", GOOD, 2, 2, 2, 7, 49);
        judge("8", GOOD, 2, 52, 52, 8, 49);
        judge("19", GOOD, 1, 52, 19, 49);
        judge("39", GOOD, 1, 2, 39, 0, 0, 49);
        judge("41", GOOD, 1, 52, 41, 49);
        judge("44", GOOD, 1, 2, 44, 49);
        judge("45", GOOD, 1, 2, 45, 0, 49);
        judge("46", GOOD, 1, 2, 46, 0, 49);
        judge("47", GOOD, 2, 52, 52, 47, 2, 49);
        judge("the called one has a STACK of its own", GOOD, 1, 47, 0, 49);
    }

    /** Promise 4 (FAULT 3): "FAULT 3: of the least METHOD that has one the least PLACE of an INSTRUCTION that is WRONG." */
    static void leastMethodAndPlace() {
        judge("the least PLACE, not the first on the way", 2, 8, 21, 4, 5, 49, 52, 51, 51, 21, 2);
        judge("of two on the way", 0, 8, 5, 5, 49);
        Check.loads("the least METHOD, not the least PLACE",
            new FileMaker().plain(49).plain(52, 5, 5, 49).plain(5, 49).bytes(), 3, 2, 1);
        FileMaker sixteen = new FileMaker();
        for (int m = 0; m < 15; m++) {
            sixteen.plain(49);
        }
        Check.loads("the last of sixteen", sixteen.plain(52, 50).bytes(), 3, 1, 15);
        int[] longest = new int[120];
        for (int place = 0; place < 119; place++) {
            longest[place] = place % 2 == 0 ? 2 : 5;
        }
        longest[119] = 50;
        Check.loads("the last PLACE of the longest CODE", new FileMaker().plain(longest).bytes(), 3, 119, 0);
    }

    public static void main(String[] args) {
        Check.all(WayEdgeTests.class);
    }
}
