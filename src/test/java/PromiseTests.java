/** Promises 1 to 13 one by one, by answers that were worked out by hand. */
public final class PromiseTests {
    private static final int NONE = KindJudge.NONE;

    /** Class 0, class 1 below it, class 2 alone, class 3 below 1; two selectors; six methods. */
    private static byte[] family() {
        return new FileMaker()
            .type(-1, 1, 2)
            .type(0, 18)
            .type(-1)
            .type(1, 1, 17, 19, 2)
            .selector(1, 1)
            .selector(0)
            .method(FileMaker.types(), 0, 0, 0, 49)
            .method(FileMaker.types(16, 1), 1, 3, 2, 3, 1, 50)
            .method(FileMaker.types(17, 1), 1, 2, 2, 0, 1, 50)
            .method(FileMaker.types(18), 0, 1, 0, 49)
            // a loop that makes NULL, REF and ANY meet; dead code behind it
            .method(FileMaker.types(17, 18, 1), 0, 6, 3,
                2, 4, 3,            // 0: null, 2: to LOCAL 3
                3, 2, 22, 13,       // 3, 5: if LOCAL 2 is 0 on at 13
                3, 0, 4, 3,         // 7, 9: LOCAL 3 becomes REF 1
                21, 17,             // 11: on at 17
                3, 1, 4, 4,         // 13, 15: LOCAL 4 becomes REF 2
                20, 2, 255,         // 17: LOCAL 2 less 1
                3, 2, 23, 0,        // 20, 22: if not 0 on at 0
                49,                 // 24
                0, 1, 51, 49)       // 25, 27, 28: never come to
            .method(FileMaker.types(), 2, 1, 8, 0, 3, 41, 6, 6, 0, 0, 42, 5, 5, 50)
            .table(2, 0, 3, 0, 0, 4, 0, 0)
            .bytes();
    }

    private static KindJudge loaded() {
        KindJudge judge = new KindJudge();
        Check.due("load of the family", Check.load(judge, family()), 6);
        return judge;
    }

    private static void newObject() {
        KindJudge judge = new KindJudge();
        Check.due("1 NONE", KindJudge.NONE, -1);
        for (int what = 0; what <= 4; what++) {
            Check.due("1 total(" + what + ")", judge.total(what), 0);
        }
        Check.fault("1", judge, 0, 0, 0);
        Check.due("1 kind", judge.kind(0, 0, 0), NONE);
        Check.due("1 kind of the stack", judge.kind(0, 0, 100), NONE);
        for (int what = -1; what <= 6; what++) {
            Check.due("1 look " + what, Check.look(judge, 0, 0, what), Check.THROWN);
        }
        Check.due("1 ways", judge.ways(0, 0), NONE);
        Check.due("1 count", judge.count(0, 0), NONE);
        Check.due("1 fits", judge.fits(1, 1), NONE);
        Check.due("1 meet", judge.meet(0, 0), NONE);
        Check.due("1 method", judge.method(0, 0), NONE);
        Check.due("1 type", judge.type(0, 0), NONE);
        Check.due("1 two objects", loaded().total(0), 6);
        Check.due("1 two objects", judge.total(0), 0);
    }

    private static void putting() {
        KindJudge judge = new KindJudge();
        int[] refused = {0, -1, 9, Integer.MAX_VALUE, Integer.MIN_VALUE};
        for (int n : refused) {
            Check.due("2 put n " + n, judge.put(1, n), false);
            Check.due("2 put n " + n + " changes nothing", judge.total(3), 0);
        }
        // 0, 0, 1, 0, 0, 0, 0, 1, 49: the bytes above the n lowest are left out
        Check.due("2 put 3", judge.put(0x7700000000000001L, 3), true);
        Check.due("2 put 5", judge.put(0xFF00000000000001L, 5), true);
        Check.due("2 put 1", judge.put(0xFFFFFFFFFFFFFF31L, 1), true);
        Check.due("2 bytes", judge.total(3), 9);
        Check.due("2 good", Check.load(judge), 1);
        Check.due("2 put 8", judge.put(0x0000010000000001L, 8), true);
        Check.due("2 put 1", judge.put(49, 1), true);
        Check.due("2 good again", Check.load(judge), 1);
        for (int n = 1; n <= 8; n++) {
            KindJudge one = new KindJudge();
            Check.due("2 put of " + n, one.put(-1, n), true);
            Check.due("2 put of " + n, one.total(3), n);
        }
    }

    private static void puttingTooMuch() {
        KindJudge judge = new KindJudge();
        for (int i = 0; i < 187; i++) {
            Check.due("2 put " + i, judge.put(0, 8), true);
        }
        Check.due("2 1496", judge.total(3), 1496);
        for (int n = 5; n <= 8; n++) {
            Check.due("2 too many by " + n, judge.put(0, n), false);
        }
        Check.due("2 still 1496", judge.total(3), 1496);
        Check.due("2 1499", judge.put(0, 3), true);
        Check.due("2 two more", judge.put(0, 2), false);
        Check.due("2 1500", judge.put(0, 1), true);
        Check.due("2 1501", judge.put(0, 1), false);
        Check.due("2 1500 bytes", judge.total(3), 1500);
        Check.due("2 load", Check.load(judge), Check.THROWN);
        Check.due("2 empty", judge.total(3), 0);
        Check.due("2 put again", judge.put(0, 8), true);
        Check.due("2 8 bytes", judge.total(3), 8);
    }

    private static void loading() {
        KindJudge judge = new KindJudge();
        Check.due("3 nothing put", Check.load(judge), Check.THROWN);
        Check.fault("3 nothing put", judge, 1, 0, 0);
        Check.due("3 family", Check.load(judge, family()), 6);
        Check.fault("3 family", judge, 0, 0, 0);
        Check.due("3 empty then", judge.total(3), 0);
        byte[] wrong = new FileMaker().plain(49).plain(0, 1, 5, 5, 49).bytes();
        Check.due("3 wrong", Check.load(judge, wrong), Check.THROWN);
        Check.due("3 empty then", judge.total(3), 0);
        Check.fault("3 wrong", judge, 3, 3, 1);
        Check.due("3 the FILE stays", judge.total(0), 6);
        Check.due("3 the FILE stays", judge.look(5, 0, 1), 2);
        Check.due("3 the FILE stays", judge.kind(4, 25, 0), NONE);
        Check.due("3 the FILE stays", judge.kind(4, 24, 3), 17);
        Check.due("3 good ones", judge.total(4), 1);
        Check.due("3 next one", Check.load(judge, new FileMaker().plain(49).plain(0, 1, 5, 49).bytes()), 2);
        Check.fault("3 next one", judge, 0, 0, 0);
        Check.due("3 good ones", judge.total(4), 2);
        Check.due("3 no classes left", judge.total(1), 0);
        Check.due("3 no such type", judge.type(0, 0), NONE);
        Check.due("3 nothing put", Check.load(judge), Check.THROWN);
        Check.due("3 the FILE stays", judge.total(0), 2);
        Check.due("3 the FILE stays", judge.look(1, 2, 0), 5);
        Check.due("3 back", Check.load(judge, family()), 6);
        Check.due("3 classes again", judge.total(1), 4);
        Check.due("3 good ones", judge.total(4), 3);
    }

    private static void faults() {
        KindJudge judge = new KindJudge();
        Check.load(judge, new FileMaker().plain(49).plain(49).plain(0, 1, 5, 200).bytes());
        Check.fault("4", judge, 2, 3, 2);
        int[] none = {-1, 3, 4, Integer.MAX_VALUE, Integer.MIN_VALUE};
        for (int what : none) {
            Check.due("4 fault(" + what + ")", judge.fault(what), NONE);
        }
        judge.put(1, 1);
        Check.fault("4 a put changes nothing", judge, 2, 3, 2);
        Check.due("4 load", Check.load(judge), Check.THROWN);
        Check.fault("4 the latest", judge, 1, 1, 0);
    }

    private static void kinds() {
        KindJudge judge = loaded();
        // ways come back to 0, where LOCAL 3 and 4 were NO at the beginning
        int[] atZero = {17, 18, 1, 0, 0, 0};
        int[] afterNull = {17, 18, 1, 3, 0, 0};
        int[] atJoin = {17, 18, 1, 17, 0, 0};
        for (int i = 0; i < atZero.length; i++) {
            Check.due("5 at 0 " + i, judge.kind(4, 0, i), atZero[i]);
            Check.due("5 at 3 " + i, judge.kind(4, 3, i), afterNull[i]);
            Check.due("5 at 17 " + i, judge.kind(4, 17, i), atJoin[i]);
        }
        Check.due("5 LOCAL 6", judge.kind(4, 0, 6), NONE);
        Check.due("5 LOCAL -1", judge.kind(4, 0, -1), NONE);
        Check.due("5 LOCAL 99", judge.kind(4, 0, 99), NONE);
        Check.due("5 null on the stack", judge.kind(4, 1, 100), 3);
        Check.due("5 empty", judge.kind(4, 0, 100), NONE);
        Check.due("5 above", judge.kind(4, 1, 101), NONE);
        Check.due("5 array", judge.kind(5, 4, 100), 2);
        Check.due("5 arrays", judge.kind(5, 5, 102), 2);
        Check.due("5 index", judge.kind(5, 7, 103), 1);
        Check.due("5 element", judge.kind(5, 8, 102), 1);
        Check.due("5 element below", judge.kind(5, 8, 101), 2);
        Check.due("5 none above", judge.kind(5, 8, 103), NONE);
        Check.due("5 unset", judge.kind(5, 0, 0), 0);
        int[] far = {Integer.MIN_VALUE, Integer.MAX_VALUE, -100, 108, 1000};
        for (int i : far) {
            Check.due("5 i " + i, judge.kind(5, 5, i), NONE);
            Check.due("5 place " + i, judge.kind(5, i, 0), NONE);
            Check.due("5 method " + i, judge.kind(i, 0, 0), NONE);
        }
        Check.due("5 none begins", judge.kind(4, 2, 0), NONE);
        Check.due("5 never come to", judge.kind(4, 25, 0), NONE);
        Check.due("5 behind the code", judge.kind(4, 29, 0), NONE);
        Check.due("5 method 6", judge.kind(6, 0, 0), NONE);
        Check.due("5 no locals", judge.kind(0, 0, 0), NONE);
    }

    private static void kindsOfAny() {
        byte[] file = new FileMaker().type(-1).type(0).type(0).type(-1)
            .method(FileMaker.types(17, 18, 19, 1), 0, 6, 2,
                3, 3, 22, 10,       // 0, 2
                3, 0, 3, 0,         // 4, 6
                21, 14,             // 8
                3, 1, 3, 2,         // 10, 12
                4, 5, 4, 4, 49)     // 14, 16, 18
            .bytes();
        KindJudge judge = Check.loads("5 any", file, 0, 0, 0);
        Check.due("5 REF 1 and REF 2", judge.kind(0, 14, 100), 16);
        Check.due("5 REF 1 and REF 3", judge.kind(0, 14, 101), 15);
        Check.due("5 LOCAL becomes ANY", judge.kind(0, 18, 5), 15);
        Check.due("5 LOCAL becomes REF 0", judge.kind(0, 18, 4), 16);
    }

    private static void looks() {
        KindJudge judge = loaded();
        int[][] due = {
            // method, place, byte, bytes, takes, puts, come to, height
            {4, 0, 2, 1, 0, 1, 1, 0},
            {4, 1, 4, 2, 1, 0, 1, 1},
            {4, 5, 22, 2, 1, 0, 1, 1},
            {4, 17, 20, 3, 0, 0, 1, 0},
            {4, 11, 21, 2, 0, 0, 1, 0},
            {4, 24, 49, 1, 0, 0, 1, 0},
            {4, 25, 0, 2, 0, 1, 0, 0},
            {4, 27, 51, 1, 1, 0, 0, 0},
            {4, 28, 49, 1, 0, 0, 0, 0},
            {5, 2, 41, 1, 1, 1, 1, 1},
            {5, 4, 6, 1, 1, 2, 1, 2},
            {5, 7, 42, 1, 2, 1, 1, 4},
            {5, 10, 50, 1, 1, 0, 1, 1},
        };
        for (int[] row : due) {
            for (int what = 0; what <= 5; what++) {
                Check.due("6 look(" + row[0] + ", " + row[1] + ", " + what + ")",
                    Check.look(judge, row[0], row[1], what), row[what + 2]);
            }
        }
        int[][] none = {{4, 2, 0}, {4, 29, 0}, {4, -1, 0}, {6, 0, 0}, {-1, 0, 0}, {0, 0, 6}, {0, 0, -1},
            {0, 1, 0}, {0, Integer.MAX_VALUE, 0}, {Integer.MIN_VALUE, 0, 0}, {0, 0, Integer.MAX_VALUE}};
        for (int[] row : none) {
            Check.due("6 look(" + row[0] + ", " + row[1] + ", " + row[2] + ")",
                Check.look(judge, row[0], row[1], row[2]), Check.THROWN);
        }
    }

    /** Every INSTRUCTION's bytes, what it takes and puts, all of them never come to. */
    private static void looksAtAll() {
        int[][] shapes = {
            {2, 0, 1}, {3, 0, 1}, {1, 0, 1}, {2, 0, 1}, {2, 1, 0}, {1, 1, 0}, {1, 1, 2}, {1, 2, 2},
            {1, 2, 1}, {1, 2, 1}, {1, 2, 1}, {1, 2, 1}, {1, 2, 1}, {1, 2, 1}, {1, 2, 1}, {1, 2, 1},
            {1, 2, 1}, {1, 2, 1}, {1, 2, 1}, {1, 1, 1}, {3, 0, 0}, {2, 0, 0},
            {2, 1, 0}, {2, 1, 0}, {2, 1, 0}, {2, 1, 0}, {2, 1, 0}, {2, 1, 0},
            {2, 2, 0}, {2, 2, 0}, {2, 2, 0}, {2, 2, 0}, {2, 2, 0}, {2, 2, 0},
            {2, 1, 0}, {2, 1, 0}, {2, 2, 0}, {2, 2, 0},
            {2, 0, 1}, {3, 1, 1}, {3, 2, 0}, {1, 1, 1}, {1, 2, 1}, {1, 3, 0}, {1, 1, 1}, {2, 1, 1}, {2, 1, 1},
            {2, 3, 1}, {2, 3, 0}, {1, 0, 0}, {1, 1, 0}, {1, 1, 0}, {1, 0, 1}, {4, 1, 0}};
        for (int op = 0; op <= 53; op++) {
            int[] code = new int[shapes[op][0] + 2];
            code[0] = 49;
            code[1] = op;
            code[code.length - 1] = 49;
            if (op == 53) {
                code[2] = 1;
            }
            byte[] file = new FileMaker().type(-1, 1).selector(0, 1, 2)
                .method(FileMaker.types(1, 1, 1), 1, 3, 1, 0, 1, 50)
                .method(FileMaker.types(), 0, 1, 0, code)
                .bytes();
            KindJudge judge = Check.loads("6 all " + op, file, 0, 0, 0);
            Check.due("6 byte " + op, Check.look(judge, 1, 1, 0), op);
            for (int what = 1; what <= 3; what++) {
                Check.due("6 look " + what + " of " + op, Check.look(judge, 1, 1, what), shapes[op][what - 1]);
            }
            Check.due("6 come to " + op, Check.look(judge, 1, 1, 4), 0);
            Check.due("6 height " + op, Check.look(judge, 1, 1, 5), 0);
            Check.due("6 next of " + op, Check.look(judge, 1, code.length - 1, 0), 49);
        }
    }

    private static void looksAtCalls() {
        byte[] file = new FileMaker().type(-1).selector(0).selector(2, 1, 1, 1)
            .method(FileMaker.types(1, 1, 1, 1), 0, 4, 0, 49)
            .method(FileMaker.types(), 2, 0, 1, 2, 50)
            .method(FileMaker.types(), 0, 0, 0, 49, 47, 0, 47, 1, 48, 0, 48, 1, 49)
            .bytes();
        KindJudge judge = Check.loads("6 calls", file, 0, 0, 0);
        int[] takes = {4, 0, 1, 4};
        int[] puts = {0, 1, 0, 1};
        for (int i = 0; i < 4; i++) {
            Check.due("6 call " + i, Check.look(judge, 2, 1 + 2 * i, 2), takes[i]);
            Check.due("6 call " + i, Check.look(judge, 2, 1 + 2 * i, 3), puts[i]);
        }
        for (int n = 1; n <= 8; n++) {
            int[] code = new int[n + 4];
            code[0] = 52;
            code[1] = 53;
            code[2] = n;
            judge = Check.loads("6 choices " + n, new FileMaker().plain(code).bytes(), 0, 0, 0);
            Check.due("6 bytes of choices " + n, Check.look(judge, 0, 1, 1), n + 3);
            Check.due("6 choices take " + n, Check.look(judge, 0, 1, 2), 1);
            Check.due("7 ways from choices " + n, judge.ways(0, 0), 2);
        }
    }

    private static void allWays() {
        KindJudge judge = loaded();
        int[][] due = {{0, 2}, {1, 1}, {3, 1}, {5, 1}, {7, 1}, {9, 1}, {11, 1}, {13, 1}, {15, 1}, {17, 2}, {20, 1},
            {22, 1}, {24, 1}, {25, 0}, {27, 0}, {28, 0}, {2, NONE}, {29, NONE}, {-1, NONE}, {Integer.MAX_VALUE, NONE}};
        for (int[] row : due) {
            Check.due("7 ways(4, " + row[0] + ")", judge.ways(4, row[0]), row[1]);
        }
        Check.due("7 ways(6, 0)", judge.ways(6, 0), NONE);
        Check.due("7 ways(-1, 0)", judge.ways(-1, 0), NONE);
        Check.due("7 ways(0, 0)", judge.ways(0, 0), 1);
        byte[] file = new FileMaker()
            .plain(
                52, 53, 2, 6, 6, 9,     // 0, 1: on at 6, 6 or 9
                52, 22, 9,              // 6, 7: on at 9 by both ways
                52, 53, 2, 0, 0, 15,    // 9, 10: on at 0 twice, or 15
                49,                     // 15
                52, 22, 9, 49)          // 16, 17, 19: never come to
            .bytes();
        judge = Check.loads("7 jumps", file, 0, 0, 0);
        int[][] jumps = {{0, 2}, {1, 1}, {6, 1}, {7, 1}, {9, 2}, {10, 1}, {15, 1}, {16, 0}, {17, 0}, {19, 0}, {8, NONE}};
        for (int[] row : jumps) {
            Check.due("7 ways(0, " + row[0] + ")", judge.ways(0, row[0]), row[1]);
        }
    }

    private static void counts() {
        KindJudge judge = loaded();
        Check.due("8 come to", judge.count(4, 0), 13);
        Check.due("8 never", judge.count(4, 1), 3);
        Check.due("8 height", judge.count(4, 2), 1);
        Check.due("8 come to", judge.count(5, 0), 9);
        Check.due("8 never", judge.count(5, 1), 0);
        Check.due("8 height", judge.count(5, 2), 4);
        Check.due("8 height 0", judge.count(0, 2), 0);
        Check.due("8 come to 1", judge.count(0, 0), 1);
        int[] none = {-1, 3, Integer.MAX_VALUE, Integer.MIN_VALUE};
        for (int what : none) {
            Check.due("8 what " + what, judge.count(0, what), NONE);
            Check.due("8 method " + (what == 3 ? 6 : what), judge.count(what == 3 ? 6 : what, 0), NONE);
        }
    }

    private static void fitting() {
        KindJudge judge = loaded();
        int[] kinds = {1, 2, 3, 15, 16, 17, 18, 19};
        int[] types = {1, 2, 15, 16, 17, 18, 19};
        int[][] due = {
            {1, 0, 0, 0, 0, 0, 0},
            {0, 1, 0, 0, 0, 0, 0},
            {0, 1, 1, 1, 1, 1, 1},
            {0, 0, 1, 0, 0, 0, 0},
            {0, 0, 1, 1, 0, 0, 0},
            {0, 0, 1, 1, 1, 0, 0},
            {0, 0, 1, 0, 0, 1, 0},
            {0, 0, 1, 1, 1, 0, 1}};
        for (int i = 0; i < kinds.length; i++) {
            for (int k = 0; k < types.length; k++) {
                Check.due("9 fits(" + kinds[i] + ", " + types[k] + ")", judge.fits(kinds[i], types[k]), due[i][k]);
            }
        }
        int[] none = {0, -1, 4, 14, 20, 24, Integer.MAX_VALUE, Integer.MIN_VALUE};
        for (int k : none) {
            Check.due("9 fits(" + k + ", 1)", judge.fits(k, 1), NONE);
            Check.due("9 fits(1, " + k + ")", judge.fits(1, k), NONE);
        }
        Check.due("9 fits(3, 3)", judge.fits(3, 3), NONE);
    }

    private static void meeting() {
        KindJudge judge = loaded();
        int[] kinds = {0, 1, 2, 3, 15, 16, 17, 18, 19};
        int[][] due = {
            {0, 0, 0, 0, 0, 0, 0, 0, 0},
            {0, 1, 0, 0, 0, 0, 0, 0, 0},
            {0, 0, 2, 2, 0, 0, 0, 0, 0},
            {0, 0, 2, 3, 15, 16, 17, 18, 19},
            {0, 0, 0, 15, 15, 15, 15, 15, 15},
            {0, 0, 0, 16, 15, 16, 16, 15, 16},
            {0, 0, 0, 17, 15, 16, 17, 15, 17},
            {0, 0, 0, 18, 15, 15, 15, 18, 15},
            {0, 0, 0, 19, 15, 16, 17, 15, 19}};
        for (int i = 0; i < kinds.length; i++) {
            for (int k = 0; k < kinds.length; k++) {
                Check.due("10 meet(" + kinds[i] + ", " + kinds[k] + ")", judge.meet(kinds[i], kinds[k]), due[i][k]);
            }
        }
        int[] none = {-1, 4, 14, 20, 24, Integer.MAX_VALUE, Integer.MIN_VALUE};
        for (int k : none) {
            Check.due("10 meet(" + k + ", 1)", judge.meet(k, 1), NONE);
            Check.due("10 meet(1, " + k + ")", judge.meet(1, k), NONE);
            Check.due("10 meet(0, " + k + ")", judge.meet(0, k), NONE);
        }
        judge = Check.loads("10 forest",
            new FileMaker().type(-1).type(0).type(0).type(2).type(2).type(1).type(-1).type(5).plain(49).bytes(), 0, 0, 0);
        int[][] forest = {{19, 20, 18}, {19, 21, 16}, {23, 21, 21}, {23, 20, 16}, {22, 23, 15}, {17, 23, 17}, {20, 18, 18}};
        for (int[] row : forest) {
            Check.due("10 meet(" + row[0] + ", " + row[1] + ")", judge.meet(row[0], row[1]), row[2]);
            Check.due("10 meet(" + row[1] + ", " + row[0] + ")", judge.meet(row[1], row[0]), row[2]);
        }
    }

    private static void methods() {
        KindJudge judge = loaded();
        int[][] due = {{1, NONE}, {2, NONE}, {NONE, 3}, {2, NONE}};
        for (int c = 0; c < 4; c++) {
            for (int s = 0; s < 2; s++) {
                Check.due("11 method(" + c + ", " + s + ")", judge.method(c, s), due[c][s]);
            }
        }
        int[] none = {-1, 4, 8, Integer.MAX_VALUE, Integer.MIN_VALUE};
        for (int i : none) {
            Check.due("11 method(" + i + ", 0)", judge.method(i, 0), NONE);
            Check.due("11 method(0, " + i + ")", judge.method(0, i), NONE);
        }
        Check.due("11 method(0, 2)", judge.method(0, 2), NONE);
    }

    private static void types() {
        KindJudge judge = loaded();
        int[][] due = {
            {NONE, 2, 1, 2, NONE, NONE, NONE, NONE, NONE, NONE, NONE},
            {0, 3, 1, 2, 18, NONE, NONE, NONE, NONE, NONE, NONE},
            {NONE, 0, NONE, NONE, NONE, NONE, NONE, NONE, NONE, NONE, NONE},
            {1, 7, 1, 2, 18, 1, 17, 19, 2, NONE, NONE}};
        for (int c = 0; c < 4; c++) {
            for (int what = 0; what <= 10; what++) {
                Check.due("12 type(" + c + ", " + what + ")", judge.type(c, what), due[c][what]);
            }
        }
        int[] none = {-1, 11, Integer.MAX_VALUE, Integer.MIN_VALUE};
        for (int i : none) {
            Check.due("12 type(3, " + i + ")", judge.type(3, i), NONE);
            Check.due("12 type(" + i + ", 1)", judge.type(i, 1), NONE);
        }
        Check.due("12 type(4, 1)", judge.type(4, 1), NONE);
    }

    private static void totals() {
        KindJudge judge = loaded();
        judge.put(0, 5);
        int[] due = {6, 4, 2, 5, 1};
        for (int what = 0; what <= 4; what++) {
            Check.due("13 total(" + what + ")", judge.total(what), due[what]);
        }
        int[] none = {-1, 5, Integer.MAX_VALUE, Integer.MIN_VALUE};
        for (int what : none) {
            Check.due("13 total(" + what + ")", judge.total(what), NONE);
        }
        KindJudge empty = new KindJudge();
        Check.load(empty, new FileMaker().type(-1).selector(0).plain(5, 49).bytes());
        for (int what = 0; what <= 4; what++) {
            Check.due("13 without a FILE " + what, empty.total(what), 0);
        }
    }

    public static void main(String[] args) {
        newObject();
        putting();
        puttingTooMuch();
        loading();
        faults();
        kinds();
        kindsOfAny();
        looks();
        looksAtAll();
        looksAtCalls();
        allWays();
        counts();
        fitting();
        meeting();
        methods();
        types();
        totals();
        Check.end();
    }
}
