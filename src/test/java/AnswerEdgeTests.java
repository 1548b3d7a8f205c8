import java.util.Arrays;

/** Promises 5 to 13, each sentence with an edge: what is answered of the FILE. */
public final class AnswerEdgeTests {
    private static final int NONE = KindJudge.NONE;
    private static final int[] FAR = {Integer.MIN_VALUE, Integer.MIN_VALUE + 1, Integer.MIN_VALUE + 100, -100, -2, -1,
        1500, Integer.MAX_VALUE - 100, Integer.MAX_VALUE - 1, Integer.MAX_VALUE};

    /** The FILE of one METHOD with this CODE and as much room as there may be. */
    private static KindJudge plain(int... code) {
        return Check.good("plain", new FileMaker().plain(code).bytes());
    }

    /** Promise 5: "of LOCAL i" */
    static void kindsOfLocals() {
        KindJudge judge = Family.loaded();
        int[][] due = {
            // PLACE, then LOCALS 0 .. 5: ways come back to 0, where LOCAL 3 and 4 were NO at the beginning
            {0, 17, 18, 1, 0, 0, 0},
            {3, 17, 18, 1, 3, 0, 0},
            {17, 17, 18, 1, 17, 0, 0},
            {24, 17, 18, 1, 17, 0, 0}};
        for (int[] row : due) {
            for (int i = 0; i < 6; i++) {
                Check.due("at " + row[0] + ", LOCAL " + i, judge.kind(4, row[0], i), row[1 + i]);
            }
            for (int i = 6; i < 100; i++) {
                Check.due("at " + row[0] + ", LOCAL " + i, judge.kind(4, row[0], i), NONE);
            }
        }
        Check.due("the last of eight", plain(49).kind(0, 0, 7), 0);
        Check.due("behind the last of eight", plain(49).kind(0, 0, 8), NONE);
    }

    /** Promise 5: "or of i - 100 of the STACK (0 the lowest)" */
    static void kindsOfTheStack() {
        KindJudge judge = plain(52, 2, 52, 41, 52, 2, 52, 41, 52, 2, 49);
        int[] due = {1, 3, 2, 1, 3, 2, 1, 3};
        for (int i = 0; i < 8; i++) {
            Check.due("i " + (100 + i), judge.kind(0, 10, 100 + i), due[i]);
        }
        int[] heights = {0, 1, 2, 3, 3, 4, 5, 6, 6, 7, 8};
        for (int place = 0; place < heights.length; place++) {
            for (int i = 0; i <= 9; i++) {
                Check.due("at " + place + ", " + i + " of the STACK is there", judge.kind(0, place, 100 + i) != NONE,
                    i < heights[place]);
            }
        }
    }

    /** Promise 5: "its TYPE, 0 NO, 3 NULL" */
    static void kindsByNumber() {
        byte[] file = new FileMaker().type(-1).type(0).type(0).type(-1).type(-1).type(-1).type(-1).type(-1)
            .method(FileMaker.types(17, 18, 19, 1), 0, 6, 2,
                3, 3, 22, 10,       // 0, 2
                3, 0, 3, 0,         // 4, 6
                21, 14,             // 8
                3, 1, 3, 2,         // 10, 12
                4, 5, 4, 4,         // 14, 16
                38, 7, 2, 49)       // 18, 20, 21
            .bytes();
        KindJudge judge = Check.good("all KINDS", file);
        Check.due("INT", judge.kind(0, 0, 3), 1);
        Check.due("NO", judge.kind(0, 0, 4), 0);
        Check.due("REF 1 and REF 2", judge.kind(0, 14, 100), 16);
        Check.due("REF 1 and REF 3", judge.kind(0, 14, 101), 15);
        Check.due("LOCAL becomes ANY", judge.kind(0, 18, 5), 15);
        Check.due("LOCAL becomes REF 0", judge.kind(0, 18, 4), 16);
        Check.due("REF 7", judge.kind(0, 21, 100), 23);
        Check.due("NULL", judge.kind(0, 21, 101), 3);
        Check.due("ARRAY", Family.loaded().kind(5, 4, 100), 2);
    }

    /** Promise 5: "NONE if there is none such" (no such METHOD, PLACE, LOCAL, or one of the STACK) */
    static void noSuchKind() {
        KindJudge judge = Family.loaded();
        Check.due("there is one", judge.kind(5, 4, 100), 2);
        for (int far : FAR) {
            Check.due("METHOD " + far, judge.kind(far, 0, 0), NONE);
            Check.due("PLACE " + far, judge.kind(5, far, 0), NONE);
            Check.due("i " + far, judge.kind(5, 4, far), NONE);
        }
        Check.due("METHOD 6", judge.kind(6, 0, 0), NONE);
        Check.due("behind the CODE", judge.kind(5, 11, 0), NONE);
        Check.due("a METHOD without LOCALS", judge.kind(0, 0, 0), NONE);
        Check.due("an empty STACK", judge.kind(0, 0, 100), NONE);
    }

    /** Promise 5: "no INSTRUCTION begins there" */
    static void noKindWhereNoneBegins() {
        KindJudge judge = Family.loaded();
        int[] inside = {2, 4, 6, 8, 10, 12, 14, 16, 18, 19, 21, 23, 26, 29};
        for (int place : inside) {
            Check.due("PLACE " + place, judge.kind(4, place, 0), NONE);
        }
    }

    /** Promise 5: "it can't be come to" */
    static void noKindWhereNeverComeTo() {
        KindJudge judge = Family.loaded();
        int[] never = {25, 27, 28};
        for (int place : never) {
            for (int i = 0; i < 8; i++) {
                Check.due("PLACE " + place + ", LOCAL " + i, judge.kind(4, place, i), NONE);
                Check.due("PLACE " + place + ", STACK " + i, judge.kind(4, place, 100 + i), NONE);
            }
        }
    }

    /** Promise 5: "or there is no FILE" */
    static void noKindWithoutAFile() {
        KindJudge judge = new KindJudge();
        Check.due("new", judge.kind(0, 0, 0), NONE);
        Check.load(judge, new FileMaker().plain(2, 5, 5, 49).bytes());
        for (int place = 0; place < 4; place++) {
            Check.due("after a FAULT 3", judge.kind(0, place, 0), NONE);
            Check.due("after a FAULT 3, the STACK", judge.kind(0, place, 100), NONE);
        }
    }

    /**
     * Promise 6: "what 0: its byte, 1: how many bytes it has, 2: how many it takes from the STACK, 3: how many it puts
     * there, 4: 1 if it may be come to, else 0, 5: how high the STACK is ahead of it (0 if it can't be come to)"
     */
    static void looks() {
        KindJudge judge = Family.loaded();
        int[][] due = {
            // METHOD, PLACE, byte, bytes, takes, puts, come to, height
            {4, 0, 2, 1, 0, 1, 1, 0}, {4, 1, 4, 2, 1, 0, 1, 1}, {4, 5, 22, 2, 1, 0, 1, 1}, {4, 17, 20, 3, 0, 0, 1, 0},
            {4, 11, 21, 2, 0, 0, 1, 0}, {4, 24, 49, 1, 0, 0, 1, 0}, {4, 25, 0, 2, 0, 1, 0, 0}, {4, 27, 51, 1, 1, 0, 0, 0},
            {4, 28, 49, 1, 0, 0, 0, 0}, {5, 2, 41, 1, 1, 1, 1, 1}, {5, 4, 6, 1, 1, 2, 1, 2}, {5, 7, 42, 1, 2, 1, 1, 4},
            {5, 10, 50, 1, 1, 0, 1, 1}};
        for (int[] row : due) {
            for (int what = 0; what <= 5; what++) {
                Check.due("look(" + row[0] + ", " + row[1] + ", " + what + ")",
                    Check.look(judge, row[0], row[1], what), row[what + 2]);
            }
        }
    }

    /** Promise 6: "1: how many bytes it has, 2: how many it takes from the STACK, 3: how many it puts there" (of each one) */
    static void looksAtEachInstruction() {
        int[][] shapes = {
            {2, 0, 1}, {3, 0, 1}, {1, 0, 1}, {2, 0, 1}, {2, 1, 0}, {1, 1, 0}, {1, 1, 2}, {1, 2, 2},
            {1, 2, 1}, {1, 2, 1}, {1, 2, 1}, {1, 2, 1}, {1, 2, 1}, {1, 2, 1}, {1, 2, 1}, {1, 2, 1},
            {1, 2, 1}, {1, 2, 1}, {1, 2, 1}, {1, 1, 1}, {3, 0, 0}, {2, 0, 0},
            {2, 1, 0}, {2, 1, 0}, {2, 1, 0}, {2, 1, 0}, {2, 1, 0}, {2, 1, 0},
            {2, 2, 0}, {2, 2, 0}, {2, 2, 0}, {2, 2, 0}, {2, 2, 0}, {2, 2, 0},
            {2, 1, 0}, {2, 1, 0}, {2, 2, 0}, {2, 2, 0},
            {2, 0, 1}, {3, 1, 1}, {3, 2, 0}, {1, 1, 1}, {1, 2, 1}, {1, 3, 0}, {1, 1, 1}, {2, 1, 1}, {2, 1, 1},
            {2, 3, 1}, {2, 3, 0}, {1, 0, 0}, {1, 1, 0}, {1, 1, 0}, {1, 0, 1}, {4, 1, 0}};
        for (int op = 0; op <= 53; op++) {
            int[] code = new int[shapes[op][0] + 2];
            code[0] = 49;
            code[1] = op;
            code[code.length - 1] = 49;
            if (op == 53) {
                code[2] = 1;
            }
            KindJudge judge = Check.good("byte " + op, new FileMaker().type(-1, 1).selector(0, 1, 2)
                .method(FileMaker.types(1, 1, 1), 1, 3, 1, 0, 1, 50).method(FileMaker.types(), 0, 1, 0, code).bytes());
            Check.due("its byte " + op, Check.look(judge, 1, 1, 0), op);
            for (int what = 1; what <= 3; what++) {
                Check.due("look " + what + " of " + op, Check.look(judge, 1, 1, what), shapes[op][what - 1]);
            }
        }
    }

    /** Promise 6: "2: how many it takes from the STACK, 3: how many it puts there" (by what is called, and by n) */
    static void looksAtCallsAndChoices() {
        byte[] file = new FileMaker().type(-1).selector(0).selector(2, 1, 1, 1)
            .method(FileMaker.types(1, 1, 1, 1), 0, 4, 0, 49)
            .method(FileMaker.types(), 2, 0, 1, 2, 50)
            .method(FileMaker.types(), 0, 0, 0, 49, 47, 0, 47, 1, 48, 0, 48, 1, 49)
            .bytes();
        KindJudge judge = Check.good("calls", file);
        int[] takes = {4, 0, 1, 4};
        int[] puts = {0, 1, 0, 1};
        for (int i = 0; i < 4; i++) {
            Check.due("call " + i + " takes", Check.look(judge, 2, 1 + 2 * i, 2), takes[i]);
            Check.due("call " + i + " puts", Check.look(judge, 2, 1 + 2 * i, 3), puts[i]);
        }
        for (int n = 1; n <= 8; n++) {
            int[] code = new int[n + 4];
            code[0] = 52;
            code[1] = 53;
            code[2] = n;
            judge = plain(code);
            Check.due("bytes of a 53 with " + n, Check.look(judge, 0, 1, 1), n + 3);
            Check.due("a 53 with " + n + " takes", Check.look(judge, 0, 1, 2), 1);
            Check.due("a 53 with " + n + " puts", Check.look(judge, 0, 1, 3), 0);
        }
    }

    /** Promise 6: "4: 1 if it may be come to, else 0, 5: how high the STACK is ahead of it (0 if it can't be come to)" */
    static void looksAtHeights() {
        KindJudge judge = plain(2, 2, 2, 2, 2, 2, 2, 2, 21, 12, 5, 49, 5, 5, 5, 5, 5, 5, 5, 5, 49);
        int[] heights = {0, 1, 2, 3, 4, 5, 6, 7, 8, NONE, 0, 0, 8, 7, 6, 5, 4, 3, 2, 1, 0};
        for (int place = 0; place < heights.length; place++) {
            if (place != 9) {
                boolean comeTo = place != 10 && place != 11;
                Check.due("PLACE " + place + " is come to", Check.look(judge, 0, place, 4), comeTo ? 1 : 0);
                Check.due("height at " + place, Check.look(judge, 0, place, 5), heights[place]);
            }
        }
    }

    /** Promise 6: "NoSuchElementException: there is none such" */
    static void noSuchInstruction() {
        KindJudge judge = Family.loaded();
        int[][] none = {{4, 2}, {4, 4}, {4, 18}, {4, 19}, {4, 26}, {4, 29}, {4, 30}, {0, 1}, {5, 11}, {5, 120},
            {6, 0}, {7, 0}, {16, 0}};
        for (int what = 0; what <= 5; what++) {
            for (int[] row : none) {
                Check.due("look(" + row[0] + ", " + row[1] + ", " + what + ")",
                    Check.look(judge, row[0], row[1], what), Check.THROWN);
            }
            for (int far : FAR) {
                Check.due("METHOD " + far, Check.look(judge, far, 0, what), Check.THROWN);
                Check.due("PLACE " + far, Check.look(judge, 0, far, what), Check.THROWN);
            }
            Check.due("no FILE", Check.look(new KindJudge(), 0, 0, what), Check.THROWN);
        }
    }

    /** Promise 6: "or no such what" */
    static void noSuchWhat() {
        KindJudge judge = Family.loaded();
        Check.due("what 6", Check.look(judge, 0, 0, 6), Check.THROWN);
        Check.due("what 7", Check.look(judge, 0, 0, 7), Check.THROWN);
        for (int far : FAR) {
            Check.due("what " + far, Check.look(judge, 0, 0, far), Check.THROWN);
        }
        Check.due("what 5", Check.look(judge, 0, 0, 5), 0);
        Check.due("what 0", Check.look(judge, 0, 0, 0), 49);
    }

    private static void ways(KindJudge judge, int method, int[][] due) {
        for (int[] row : due) {
            Check.due("ways(" + method + ", " + row[0] + ")", judge.ways(method, row[0]), row[1]);
        }
    }

    /** Promise 7: "from INSTRUCTIONS that may be come to" */
    static void waysFromWhatIsComeTo() {
        ways(Family.loaded(), 4, new int[][] {{0, 2}, {1, 1}, {3, 1}, {5, 1}, {7, 1}, {9, 1}, {11, 1}, {13, 1}, {15, 1},
            {17, 2}, {20, 1}, {22, 1}, {24, 1}, {25, 0}, {27, 0}, {28, 0}});
        ways(plain(21, 4, 21, 4, 49, 21, 4), 0, new int[][] {{0, 1}, {2, 0}, {4, 1}, {5, 0}});
        ways(plain(49, 21, 0), 0, new int[][] {{0, 1}, {1, 0}});
    }

    /** Promise 7: "one from each that goes on there by a jump or behind itself" */
    static void waysByAJumpOrBehind() {
        ways(plain(52, 22, 6, 52, 22, 6, 49), 0, new int[][] {{3, 1}, {6, 2}});
        // a jump whose PLACE is also the one behind it is one INSTRUCTION that goes on there
        ways(plain(52, 22, 3, 49), 0, new int[][] {{3, 1}});
        ways(plain(52, 52, 28, 4, 49), 0, new int[][] {{4, 1}});
        ways(plain(21, 0), 0, new int[][] {{0, 2}});
        ways(plain(52, 51, 52, 22, 0, 52, 23, 0, 52, 24, 0, 21, 0), 0, new int[][] {{0, 5}, {1, 1}});
        int[] most = new int[120];
        for (int k = 0; k < 39; k++) {
            most[3 * k] = 52;
            most[3 * k + 1] = 22;
            most[3 * k + 2] = 117;
        }
        most[117] = 49;
        most[118] = 49;
        most[119] = 49;
        ways(plain(most), 0, new int[][] {{117, 39}, {118, 0}});
    }

    /** Promise 7: "(one alone, if it does so by several places told)" */
    static void waysBySeveralPlacesTold() {
        ways(plain(
            52, 53, 2, 6, 6, 9,     // 0, 1: on at 6, 6 or 9
            52, 22, 9,              // 6, 7: on at 9 by both ways
            52, 53, 2, 0, 0, 15,    // 9, 10: on at 0 twice, or 15
            49,                     // 15
            52, 22, 9, 49),         // 16, 17, 19: never come to
            0, new int[][] {{0, 2}, {1, 1}, {6, 1}, {7, 1}, {9, 2}, {10, 1}, {15, 1}, {16, 0}, {17, 0}, {19, 0}});
        for (int n = 1; n <= 8; n++) {
            int[] code = new int[n + 5];
            code[0] = 52;
            code[1] = 53;
            code[2] = n;
            Arrays.fill(code, 3, n + 4, n + 4);
            code[n + 4] = 49;
            ways(plain(code), 0, new int[][] {{0, 1}, {1, 1}, {n + 4, 1}});
        }
    }

    /** Promise 7: "and one for the beginning at PLACE 0" */
    static void waysToTheBeginning() {
        ways(plain(49), 0, new int[][] {{0, 1}});
        ways(plain(52, 22, 0, 49), 0, new int[][] {{0, 2}});
        ways(plain(52, 53, 1, 0, 0), 0, new int[][] {{0, 2}});
        KindJudge judge = Family.loaded();
        for (int m = 0; m < Family.METHODS; m++) {
            Check.due("METHOD " + m, judge.ways(m, 0), m == 4 ? 2 : 1);
        }
    }

    /** Promise 7: "NONE if no INSTRUCTION begins there, or there is no FILE." */
    static void noWays() {
        KindJudge judge = Family.loaded();
        int[] inside = {2, 4, 18, 19, 26, 29, 30, 120};
        for (int place : inside) {
            Check.due("PLACE " + place, judge.ways(4, place), NONE);
        }
        for (int far : FAR) {
            Check.due("PLACE " + far, judge.ways(4, far), NONE);
            Check.due("METHOD " + far, judge.ways(far, 0), NONE);
        }
        Check.due("METHOD 6", judge.ways(6, 0), NONE);
        Check.due("no FILE", new KindJudge().ways(0, 0), NONE);
        KindJudge faulty = new KindJudge();
        Check.load(faulty, new FileMaker().plain(5, 49).bytes());
        Check.due("no FILE after a FAULT", faulty.ways(0, 0), NONE);
    }

    /** Promise 8: "How many of the METHOD's INSTRUCTIONS may be come to (what 0), can't be (1)" */
    static void counts() {
        KindJudge judge = Family.loaded();
        int[][] due = {{1, 0}, {2, 0}, {2, 0}, {1, 0}, {13, 3}, {9, 0}};
        for (int m = 0; m < due.length; m++) {
            Check.due("come to in METHOD " + m, judge.count(m, 0), due[m][0]);
            Check.due("never in METHOD " + m, judge.count(m, 1), due[m][1]);
        }
        int[] longest = new int[120];
        Arrays.fill(longest, 49);
        Check.due("one of 120", plain(longest).count(0, 0), 1);
        Check.due("119 of 120", plain(longest).count(0, 1), 119);
        for (int place = 0; place < 119; place++) {
            longest[place] = place % 2 == 0 ? 2 : 5;
        }
        longest[118] = 49;
        Check.due("119 of 120", plain(longest).count(0, 0), 119);
        Check.due("one of 120", plain(longest).count(0, 1), 1);
    }

    /** Promise 8: "and how high its STACK is at most behind any that may be come to (2)" */
    static void countsHeight() {
        KindJudge judge = Family.loaded();
        int[] due = {0, 1, 1, 0, 1, 4};
        for (int m = 0; m < due.length; m++) {
            Check.due("METHOD " + m, judge.count(m, 2), due[m]);
        }
        for (int high = 0; high <= 8; high++) {
            int[] code = new int[high + 3];
            Arrays.fill(code, 0, high, 2);
            Arrays.fill(code, high, high + 3, 49);
            Check.due("a height of " + high, plain(code).count(0, 2), high);
        }
        Check.due("what is never come to is not counted", plain(2, 5, 49, 2, 2, 2, 49).count(0, 2), 1);
        Check.due("behind the last that puts", plain(52, 52, 8, 53, 1, 7, 7, 2, 6, 6, 49).count(0, 2), 3);
        Check.due("not what it has ahead", plain(52, 51, 49).count(0, 2), 1);
    }

    /** Promise 8: "NONE if there is no such METHOD, or for another what." */
    static void noCount() {
        KindJudge judge = Family.loaded();
        for (int what = 0; what <= 2; what++) {
            for (int far : FAR) {
                Check.due("METHOD " + far, judge.count(far, what), NONE);
            }
            Check.due("METHOD 6", judge.count(6, what), NONE);
            Check.due("no FILE", new KindJudge().count(0, what), NONE);
        }
        for (int far : FAR) {
            Check.due("what " + far, judge.count(0, far), NONE);
        }
        Check.due("what 3", judge.count(0, 3), NONE);
    }

    /** Promise 9: "Whether a KIND is FIT as a TYPE, by the FILE's classes: 1 or 0." */
    static void fits() {
        KindJudge judge = Family.loaded();
        int[] kinds = {1, 2, 3, 15, 16, 17, 18, 19};
        int[] types = {1, 2, 15, 16, 17, 18, 19};
        int[][] due = {
            {1, 0, 0, 0, 0, 0, 0},
            {0, 1, 0, 0, 0, 0, 0},
            {0, 1, 1, 1, 1, 1, 1},
            {0, 0, 1, 0, 0, 0, 0},
            {0, 0, 1, 1, 0, 0, 0},
            {0, 0, 1, 1, 1, 0, 0},
            {0, 0, 1, 0, 0, 1, 0},
            {0, 0, 1, 1, 1, 0, 1}};
        for (int i = 0; i < kinds.length; i++) {
            for (int k = 0; k < types.length; k++) {
                Check.due("fits(" + kinds[i] + ", " + types[k] + ")", judge.fits(kinds[i], types[k]), due[i][k]);
            }
        }
    }

    /** Promise 9 (VERIFYING): "A KIND is FIT as a TYPE, if it is that, NULL (but for INT)" */
    static void nullFitsAllButInt() {
        KindJudge judge = Family.loaded();
        Check.due("as INT", judge.fits(3, 1), 0);
        int[] types = {2, 15, 16, 17, 18, 19};
        for (int type : types) {
            Check.due("as " + type, judge.fits(3, type), 1);
        }
    }

    /** Promise 9 (VERIFYING): "or a REF for a REF of a class that its own is BELOW" */
    static void refFitsWhatItIsBelow() {
        KindJudge judge = Family.loaded();
        Check.due("as its SUPER", judge.fits(17, 16), 1);
        Check.due("as its SUPER's SUPER", judge.fits(19, 16), 1);
        Check.due("as itself", judge.fits(17, 17), 1);
        Check.due("as one BELOW it", judge.fits(16, 17), 0);
        Check.due("as one far BELOW it", judge.fits(16, 19), 0);
        Check.due("as one aside", judge.fits(18, 16), 0);
        Check.due("as ARRAY", judge.fits(16, 2), 0);
        Check.due("as INT", judge.fits(16, 1), 0);
    }

    /** Promise 9: "as ANY ANY alone, NULL and each REF will do" */
    static void fitsAsAny() {
        KindJudge judge = Family.loaded();
        int[] kinds = {3, 15, 16, 17, 18, 19};
        for (int kind : kinds) {
            Check.due(kind + " as ANY", judge.fits(kind, 15), 1);
        }
        Check.due("INT as ANY", judge.fits(1, 15), 0);
        Check.due("ARRAY as ANY", judge.fits(2, 15), 0);
        Check.due("ANY as ARRAY", judge.fits(15, 2), 0);
        Check.due("ANY as REF", judge.fits(15, 16), 0);
    }

    /** Promise 9: "NONE if there is no FILE" */
    static void fitsNothingWithoutAFile() {
        KindJudge judge = new KindJudge();
        int[] numbers = {1, 2, 15, 16};
        for (int round = 0; round < 2; round++) {
            for (int a : numbers) {
                for (int b : numbers) {
                    Check.due("fits(" + a + ", " + b + ")", judge.fits(a, b), NONE);
                }
            }
            Check.load(judge, new FileMaker().type(-1).plain(5, 49).bytes());
        }
    }

    /** Promise 9: "no such KIND (1, 2, 3, 15, 16 + a class) or TYPE (1, 2, 15, 16 + a class" */
    static void noSuchKindOrType() {
        for (int classes = 0; classes <= 8; classes++) {
            FileMaker maker = new FileMaker();
            for (int c = 0; c < classes; c++) {
                maker.type(-1);
            }
            KindJudge judge = Check.good(classes + " classes", maker.plain(49).bytes());
            for (int n = -1; n <= 40; n++) {
                boolean type = n == 1 || n == 2 || n == 15 || n >= 16 && n < 16 + classes;
                Check.due(n + " as a KIND, " + classes + " classes", judge.fits(n, 1) != NONE, type || n == 3);
                Check.due(n + " as a TYPE, " + classes + " classes", judge.fits(1, n) != NONE, type);
            }
            for (int far : FAR) {
                Check.due("KIND " + far, judge.fits(far, 1), NONE);
                Check.due("TYPE " + far, judge.fits(1, far), NONE);
            }
            Check.due("neither", judge.fits(0, 3), NONE);
        }
    }

    /** Promise 10: "The KIND where two of them (0 too) come together, by the FILE's classes." */
    static void meets() {
        KindJudge judge = Family.loaded();
        int[] kinds = {0, 1, 2, 3, 15, 16, 17, 18, 19};
        int[][] due = {
            {0, 0, 0, 0, 0, 0, 0, 0, 0},
            {0, 1, 0, 0, 0, 0, 0, 0, 0},
            {0, 0, 2, 2, 0, 0, 0, 0, 0},
            {0, 0, 2, 3, 15, 16, 17, 18, 19},
            {0, 0, 0, 15, 15, 15, 15, 15, 15},
            {0, 0, 0, 16, 15, 16, 16, 15, 16},
            {0, 0, 0, 17, 15, 16, 17, 15, 17},
            {0, 0, 0, 18, 15, 15, 15, 18, 15},
            {0, 0, 0, 19, 15, 16, 17, 15, 19}};
        for (int i = 0; i < kinds.length; i++) {
            for (int k = 0; k < kinds.length; k++) {
                Check.due("meet(" + kinds[i] + ", " + kinds[k] + ")", judge.meet(kinds[i], kinds[k]), due[i][k]);
            }
        }
    }

    /** Promise 10 (VERIFYING): "REF of the lowest class that both are or are BELOW, ANY without one" */
    static void meetsAtTheLowestClass() {
        KindJudge judge = Check.good("forest",
            new FileMaker().type(-1).type(0).type(0).type(2).type(2).type(1).type(-1).type(5).plain(49).bytes());
        int[][] due = {{19, 20, 18}, {19, 21, 16}, {23, 21, 21}, {23, 20, 16}, {22, 23, 15}, {17, 23, 17}, {20, 18, 18}};
        for (int[] row : due) {
            Check.due("meet(" + row[0] + ", " + row[1] + ")", judge.meet(row[0], row[1]), row[2]);
            Check.due("meet(" + row[1] + ", " + row[0] + ")", judge.meet(row[1], row[0]), row[2]);
        }
        FileMaker chain = new FileMaker();
        for (int c = 0; c < 8; c++) {
            chain.type(c - 1);
        }
        judge = Check.good("chain", chain.plain(49).bytes());
        for (int a = 16; a < 24; a++) {
            for (int b = 16; b < 24; b++) {
                Check.due("meet(" + a + ", " + b + ") of a chain", judge.meet(a, b), Math.min(a, b));
            }
        }
    }

    /** Promise 10: "NONE if there is no FILE, or no such KIND." */
    static void noMeeting() {
        for (int classes = 0; classes <= 8; classes++) {
            FileMaker maker = new FileMaker();
            for (int c = 0; c < classes; c++) {
                maker.type(-1);
            }
            KindJudge judge = Check.good(classes + " classes", maker.plain(49).bytes());
            for (int n = -1; n <= 40; n++) {
                boolean kind = n >= 0 && n <= 3 || n == 15 || n >= 16 && n < 16 + classes;
                for (int other = 0; other <= 1; other++) {
                    Check.due("meet(" + n + ", " + other + ")", judge.meet(n, other) != NONE, kind);
                    Check.due("meet(" + other + ", " + n + ")", judge.meet(other, n) != NONE, kind);
                }
            }
            for (int far : FAR) {
                Check.due("meet(" + far + ", 0)", judge.meet(far, 0), NONE);
                Check.due("meet(0, " + far + ")", judge.meet(0, far), NONE);
                Check.due("meet of two such", judge.meet(far, far), NONE);
            }
        }
        Check.due("no FILE", new KindJudge().meet(0, 0), NONE);
        Check.due("no FILE", new KindJudge().meet(1, 1), NONE);
    }

    /** Promise 11: "The METHOD that a class has for a SELECTOR (or its SUPER, and so on)." */
    static void methods() {
        KindJudge judge = Family.loaded();
        int[][] due = {{1, NONE}, {2, NONE}, {NONE, 3}, {2, NONE}};
        for (int c = 0; c < Family.CLASSES; c++) {
            for (int s = 0; s < Family.SELECTORS; s++) {
                Check.due("method(" + c + ", " + s + ")", judge.method(c, s), due[c][s]);
            }
        }
        FileMaker chain = new FileMaker();
        for (int c = 0; c < 8; c++) {
            chain.type(c - 1);
        }
        for (int s = 0; s < 8; s++) {
            chain.selector(0);
        }
        int[] table = new int[64];
        Arrays.fill(table, 0, 8, 1);
        table[36] = 2;
        table[63] = 16;
        for (int m = 0; m < 16; m++) {
            chain.method(FileMaker.types(16), 0, 1, 0, 49);
        }
        judge = Check.good("chain", chain.table(table).bytes());
        for (int c = 0; c < 8; c++) {
            for (int s = 0; s < 8; s++) {
                int own = c >= 4 && s == 4 ? 1 : 0;
                Check.due("method(" + c + ", " + s + ") of a chain", judge.method(c, s), c == 7 && s == 7 ? 15 : own);
            }
        }
    }

    /** Promise 11: "NONE if there are no such ones, or it has none." */
    static void noMethod() {
        KindJudge judge = Family.loaded();
        for (int far : FAR) {
            Check.due("class " + far, judge.method(far, 0), NONE);
            Check.due("SELECTOR " + far, judge.method(0, far), NONE);
        }
        for (int n = 4; n <= 20; n++) {
            Check.due("class " + n, judge.method(n, 0), NONE);
        }
        for (int n = 2; n <= 20; n++) {
            Check.due("SELECTOR " + n, judge.method(0, n), NONE);
        }
        Check.due("it has none", judge.method(2, 0), NONE);
        Check.due("no FILE", new KindJudge().method(0, 0), NONE);
    }

    private static final int[][] TYPES = {
        {NONE, 2, 1, 2, NONE, NONE, NONE, NONE, NONE, NONE, NONE},
        {0, 3, 1, 2, 18, NONE, NONE, NONE, NONE, NONE, NONE},
        {NONE, 0, NONE, NONE, NONE, NONE, NONE, NONE, NONE, NONE, NONE},
        {1, 7, 1, 2, 18, 1, 17, 19, 2, NONE, NONE}};

    /** Promise 12: "Of a class, what 0: its SUPER (NONE without)" */
    static void superOfAClass() {
        KindJudge judge = Family.loaded();
        for (int c = 0; c < TYPES.length; c++) {
            Check.due("class " + c, judge.type(c, 0), TYPES[c][0]);
        }
    }

    /** Promise 12: "1: how many FIELDS with those of its SUPER" */
    static void fieldsOfAClass() {
        KindJudge judge = Family.loaded();
        for (int c = 0; c < TYPES.length; c++) {
            Check.due("class " + c, judge.type(c, 1), TYPES[c][1]);
        }
        judge = Check.good("eight", new FileMaker().type(-1, 1, 1, 1, 1).type(0).type(1, 2, 2, 2, 2).type(2).plain(49).bytes());
        int[] due = {4, 4, 8, 8};
        for (int c = 0; c < due.length; c++) {
            Check.due("class " + c + " of a chain", judge.type(c, 1), due[c]);
            Check.due("the last FIELD of " + c, judge.type(c, 1 + due[c]), c < 2 ? 1 : 2);
            Check.due("behind the last FIELD of " + c, judge.type(c, 2 + due[c]), NONE);
        }
    }

    /** Promise 12: "2 + f: the TYPE of FIELD f" */
    static void typesOfFields() {
        KindJudge judge = Family.loaded();
        for (int c = 0; c < TYPES.length; c++) {
            for (int what = 2; what < TYPES[c].length; what++) {
                Check.due("type(" + c + ", " + what + ")", judge.type(c, what), TYPES[c][what]);
            }
        }
    }

    /** Promise 12: "NONE if there is none such, or for another what." */
    static void noType() {
        KindJudge judge = Family.loaded();
        for (int far : FAR) {
            Check.due("what " + far, judge.type(3, far), NONE);
            for (int what = 0; what <= 3; what++) {
                Check.due("class " + far, judge.type(far, what), NONE);
            }
        }
        for (int what = 0; what <= 3; what++) {
            Check.due("class 4", judge.type(4, what), NONE);
            Check.due("class 8", judge.type(8, what), NONE);
            Check.due("no FILE", new KindJudge().type(0, what), NONE);
        }
        Check.due("a FIELD behind the last", judge.type(3, 9), NONE);
        Check.due("a FIELD of a class without any", judge.type(2, 2), NONE);
    }

    /** Promise 13: "What 0: METHODS, 1: classes, 2: SELECTORS of the FILE" */
    static void totalsOfTheFile() {
        KindJudge judge = Family.loaded();
        Check.due("METHODS", judge.total(0), Family.METHODS);
        Check.due("classes", judge.total(1), Family.CLASSES);
        Check.due("SELECTORS", judge.total(2), Family.SELECTORS);
        FileMaker most = new FileMaker();
        for (int i = 0; i < 16; i++) {
            most.plain(49);
            if (i < 8) {
                most.type(-1).selector(0);
            }
        }
        judge = Check.good("most", most.bytes());
        Check.due("most METHODS", judge.total(0), 16);
        Check.due("most classes", judge.total(1), 8);
        Check.due("most SELECTORS", judge.total(2), 8);
        judge = plain(49);
        Check.due("fewest METHODS", judge.total(0), 1);
        Check.due("no classes", judge.total(1), 0);
        Check.due("no SELECTORS", judge.total(2), 0);
    }

    /** Promise 13: "3: bytes that are put together" */
    static void totalOfBytes() {
        KindJudge judge = Family.loaded();
        Check.due("none after a load()", judge.total(3), 0);
        for (int i = 0; i < 187; i++) {
            judge.put(0, 8);
            Check.due("bytes", judge.total(3), 8 * (i + 1));
        }
        judge.put(0, 4);
        Check.due("all bytes", judge.total(3), 1500);
        judge.put(0, 1);
        Check.due("all bytes still", judge.total(3), 1500);
        Check.load(judge);
        Check.due("none after a FAULT", judge.total(3), 0);
    }

    /** Promise 13: "4: FILES that were good" */
    static void totalOfGoodFiles() {
        KindJudge judge = new KindJudge();
        byte[] good = new FileMaker().plain(49).bytes();
        for (int n = 1; n <= 20; n++) {
            Check.load(judge, good);
            Check.due("good ones", judge.total(4), n);
            Check.load(judge, new FileMaker().plain(5, 49).bytes());
            Check.due("a FAULT does not count", judge.total(4), n);
        }
    }

    /** Promise 13: "NONE for another what" */
    static void noTotal() {
        KindJudge judge = Family.loaded();
        for (int far : FAR) {
            Check.due("what " + far, judge.total(far), NONE);
            Check.due("what " + far + " without a FILE", new KindJudge().total(far), NONE);
        }
        Check.due("what 5", judge.total(5), NONE);
    }

    /** Promise 13: "(0 to 2: 0 without a FILE)" */
    static void totalsWithoutAFile() {
        KindJudge judge = new KindJudge();
        byte[][] faulty = {{}, new FileMaker().type(-1).selector(0).plain(49).table(5).bytes(),
            new FileMaker().type(-1).selector(0).plain(54).bytes(), new FileMaker().type(-1).selector(0).plain(5, 49).bytes()};
        for (byte[] file : faulty) {
            for (int what = 0; what <= 4; what++) {
                Check.due("total(" + what + ")", judge.total(what), 0);
            }
            Check.load(judge, file);
        }
        for (int what = 0; what <= 4; what++) {
            Check.due("total(" + what + ")", judge.total(what), 0);
        }
    }

    /** What it is: "An object is used for at most 512 calls after it has been made" */
    static void lastOfItsCalls() {
        KindJudge judge = new KindJudge();
        byte[] file = new FileMaker().plain(52, 51, 49).bytes();
        int calls = 0;
        int loads = 0;
        while (calls + 3 <= 508) {
            Check.put(judge, file);
            Check.due("load", Check.load(judge), 1);
            calls += (file.length + 7) / 8 + 1;
            loads++;
        }
        for (; calls < 508; calls++) {
            Check.due("ways", judge.ways(0, 1), 1);
        }
        Check.due("call 509", judge.kind(0, 1, 100), 1);
        Check.due("call 510", Check.look(judge, 0, 3, 0), Check.THROWN);
        Check.due("call 511", judge.total(4), loads);
        Check.due("call 512", judge.count(0, 0), 3);
    }

    public static void main(String[] args) {
        Check.all(AnswerEdgeTests.class);
    }
}
