import java.util.Arrays;

/** Promises 1 to 4, each sentence with an edge: a new object, put, load and fault. */
public final class LoadEdgeTests {
    private static final int NONE = KindJudge.NONE;
    private static final int MOST = 1500;
    private static final int[] FAR = {
        Integer.MIN_VALUE, Integer.MIN_VALUE + 1, -256, -8, -1, Integer.MAX_VALUE - 1, Integer.MAX_VALUE};

    /** A FILE of one METHOD that returns at once. */
    private static final byte[] SMALLEST = {0, 0, 1, 0, 0, 0, 0, 1, 49};
    private static final byte[] WITH_FAULT_1 = {0, 0, 0};
    private static final byte[] WITH_FAULT_2 = {0, 0, 1, 0, 0, 0, 0, 1, 54};
    private static final byte[] WITH_FAULT_3 = {0, 0, 1, 0, 0, 0, 0, 2, 5, 49};
    private static final byte[][] WITH_FAULTS = {{}, WITH_FAULT_1, WITH_FAULT_2, WITH_FAULT_3};

    /** A FILE of 1500 bytes: the last of its METHODS has 117 bytes of CODE, the others 120. */
    private static byte[] longest() {
        FileMaker maker = new FileMaker();
        for (int m = 0; m < 12; m++) {
            int[] code = new int[m < 11 ? 120 : 117];
            Arrays.fill(code, 49);
            maker.plain(code);
        }
        return maker.bytes();
    }

    private static void putOneByOne(KindJudge judge, byte[] bytes, int from, int to) {
        for (int i = from; i < to; i++) {
            Check.due("put of byte " + i, judge.put(bytes[i], 1), true);
        }
    }

    /** Promise 1: "No FILE." */
    static void newObject() {
        hasNoFile(new KindJudge());
    }

    private static void hasNoFile(KindJudge judge) {
        for (int what = 0; what <= 4; what++) {
            Check.due("total(" + what + ")", judge.total(what), 0);
        }
        for (int m = 0; m <= 16; m++) {
            for (int what = 0; what <= 5; what++) {
                Check.due("look", Check.look(judge, m, 0, what), Check.THROWN);
                Check.due("count", judge.count(m, what), NONE);
                Check.due("kind", judge.kind(m, 0, what), NONE);
            }
            Check.due("kind of the STACK", judge.kind(m, 0, 100), NONE);
            Check.due("ways", judge.ways(m, 0), NONE);
        }
        for (int a = 0; a <= 24; a++) {
            for (int b = 0; b <= 24; b++) {
                Check.due("fits", judge.fits(a, b), NONE);
                Check.due("meet", judge.meet(a, b), NONE);
                Check.due("method", judge.method(a, b), NONE);
                Check.due("type", judge.type(a, b), NONE);
            }
        }
    }

    /** Promise 1: "`KindJudge()`: No FILE." (whatever other objects have) */
    static void newObjectBesideAnother() {
        KindJudge loaded = Family.loaded();
        loaded.put(1, 1);
        KindJudge judge = new KindJudge();
        hasNoFile(judge);
        Check.fault("its FAULT", judge, 0, 0, 0);
        Check.load(judge);
        Check.due("the other one", loaded.total(0), Family.METHODS);
        Check.due("the other one's bytes", loaded.total(3), 1);
        Check.fault("the other one's FAULT", loaded, 0, 0, 0);
    }

    /** Promise 2: "The n (1 .. 8) lowest bytes of word, the highest first" */
    static void lowestBytesHighestFirst() {
        int[] code = {49, 2, 5, 6, 7, 8, 9, 49};
        for (int n = 1; n <= 8; n++) {
            byte[] front = {0, 0, 1, 0, 0, 0, 0, (byte) n};
            KindJudge judge = new KindJudge();
            putOneByOne(judge, front, 0, front.length);
            // the CODE, with 49 as its last byte, and bytes that are not wanted above it
            long word = n == 8 ? 0 : 0x4142434445464748L << 8 * n;
            for (int k = 0; k < n; k++) {
                word |= (long) (k == n - 1 ? 49 : code[k]) << 8 * (n - 1 - k);
            }
            Check.due("put of " + n, judge.put(word, n), true);
            Check.due("put of " + n + ": bytes", judge.total(3), front.length + n);
            Check.due("put of " + n + ": load", Check.load(judge), 1);
            for (int k = 0; k < n; k++) {
                Check.due("put of " + n + ": byte " + k, Check.look(judge, 0, k, 0), k == n - 1 ? 49 : code[k]);
            }
        }
    }

    /** Promise 2: "lowest bytes of word" (those with a sign, of a word below 0) */
    static void bytesWithASign() {
        for (int n = 1; n <= 8; n++) {
            KindJudge judge = new KindJudge();
            Check.due("put(-1, " + n + ")", judge.put(-1, n), true);
            Check.due("its bytes", judge.total(3), n);
            Check.due("load", Check.load(judge), Check.THROWN);
            Check.fault("255 classes", judge, 1, 0, 0);
        }
        KindJudge judge = new KindJudge();
        Check.due("put", judge.put(Long.MIN_VALUE, 7), true);
        Check.due("load", Check.load(judge), Check.THROWN);
        Check.fault("all zeros, so no METHOD", judge, 1, 2, 0);
    }

    /** Promise 2: "come behind the bytes that are put together: true" */
    static void comeBehind() {
        KindJudge judge = new KindJudge();
        byte[] file = Family.bytes();
        int n = 0;
        for (int i = 0; i < file.length; i += n) {
            n = Math.min(1 + n % 8, file.length - i);
            long word = 0;
            for (int k = 0; k < n; k++) {
                word = word << 8 | file[i + k] & 255;
            }
            Check.due("put of " + n, judge.put(word, n), true);
            Check.due("bytes", judge.total(3), i + n);
        }
        Check.due("load", Check.load(judge), Family.METHODS);
        Check.due("as when put eight at a time", Family.answers(judge).equals(Family.answers(Family.loaded())), true);
    }

    /** Promise 2: "false, changing nothing, for another n" */
    static void anotherN() {
        KindJudge judge = new KindJudge();
        int[] near = {0, 9, 10, 16, 64, 256, 257, 264, 1500, 1501};
        int[] refused = FileMaker.join(near, FAR);
        for (int i = 0; i < SMALLEST.length; i++) {
            for (int n : refused) {
                Check.due("put of n " + n, judge.put(0x0101010101010101L, n), false);
                Check.due("bytes after it", judge.total(3), i);
            }
            putOneByOne(judge, SMALLEST, i, i + 1);
        }
        Check.fault("no load() yet", judge, 0, 0, 0);
        Check.due("load", Check.load(judge), 1);
    }

    /** Promise 2: "or if there would be more than 1500" */
    static void tooManyBytes() {
        byte[] file = longest();
        for (int n = 1; n <= 8; n++) {
            KindJudge judge = new KindJudge();
            Check.put(judge, Arrays.copyOf(file, MOST - 8));
            int at = MOST - 8;
            putOneByOne(judge, file, at, MOST - n);
            for (int more = n + 1; more <= 8; more++) {
                Check.due(more + " where " + n + " are free", judge.put(0, more), false);
                Check.due("bytes after it", judge.total(3), MOST - n);
            }
            Check.due(n + " where as many are free", judge.put(0x3131313131313131L, n), true);
            Check.due("all bytes", judge.total(3), MOST);
            for (int more = 1; more <= 8; more++) {
                Check.due(more + " where none is free", judge.put(0, more), false);
            }
            for (int another : FAR) {
                Check.due("another n where none is free", judge.put(0, another), false);
            }
            Check.due("all bytes still", judge.total(3), MOST);
            Check.due("load", Check.load(judge), 12);
        }
    }

    /** Promise 3: "What was put together (it is empty then in any case)" */
    static void emptyThen() {
        KindJudge judge = new KindJudge();
        for (int round = 0; round < 3; round++) {
            for (byte[] faulty : WITH_FAULTS) {
                Check.due("faulty", Check.load(judge, faulty), Check.THROWN);
                Check.due("bytes after a FAULT", judge.total(3), 0);
                Check.due("nothing behind it", Check.load(judge), Check.THROWN);
                Check.fault("nothing behind it", judge, 1, 0, 0);
            }
            Check.due("good", Check.load(judge, SMALLEST), 1);
            Check.due("bytes after a good one", judge.total(3), 0);
            Check.due("nothing behind it", Check.load(judge), Check.THROWN);
            Check.fault("nothing behind it", judge, 1, 0, 0);
        }
        Check.put(judge, longest());
        Check.due("full", judge.put(0, 1), false);
        Check.due("good", Check.load(judge), 12);
        Check.due("room again", Check.load(judge, longest()), 12);
        Check.put(judge, Arrays.copyOf(longest(), MOST - 1));
        Check.due("one byte too few", Check.load(judge), Check.THROWN);
        Check.fault("one byte too few", judge, 1, MOST - 1, 0);
        Check.due("room again", Check.load(judge, longest()), 12);
    }

    /** Promise 3: "becomes the FILE: how many METHODS" */
    static void howManyMethods() {
        KindJudge judge = new KindJudge();
        FileMaker maker = new FileMaker();
        for (int methods = 1; methods <= 16; methods++) {
            maker.plain(49);
            Check.due(methods + " METHODS", Check.load(judge, maker.bytes()), methods);
            Check.due("total(0)", judge.total(0), methods);
        }
        Check.due("fewer again", Check.load(judge, SMALLEST), 1);
        Check.due("the second is gone", judge.count(1, 0), NONE);
    }

    /** Promise 3: "becomes the FILE" (nothing is left of the one before) */
    static void nothingLeftOfTheOneBefore() {
        byte[][] before = {Family.bytes(), longest(), WITH_FAULT_1, WITH_FAULT_2, WITH_FAULT_3};
        byte[][] next = {SMALLEST, new FileMaker().plain(1, 49, 49, 5, 49).bytes(), Family.bytes()};
        KindJudge judge = new KindJudge();
        for (byte[] good : next) {
            String due = Family.answers(Check.good("alone", good));
            for (byte[] file : before) {
                Check.load(judge, file);
                Check.load(judge, file);
                Check.due("load() is good", Check.load(judge, good) > 0, true);
                Check.due("its answers are those of the FILE alone", Family.answers(judge).equals(due), true);
            }
        }
    }

    /** Promise 3: "IllegalArgumentException: it has a FAULT" */
    static void throwsForAFault() {
        for (byte[] faulty : WITH_FAULTS) {
            KindJudge judge = new KindJudge();
            Check.put(judge, faulty);
            Class<?> thrown = null;
            try {
                judge.load();
            } catch (RuntimeException e) {
                thrown = e.getClass();
            }
            Check.due(faulty.length + " bytes throw " + thrown, thrown == IllegalArgumentException.class, true);
        }
    }

    /** Promise 3: "(all else stays as it is)" */
    static void allElseStays() {
        KindJudge none = new KindJudge();
        String ofNone = Family.answers(none);
        KindJudge judge = Family.loaded();
        String ofFamily = Family.answers(judge);
        byte[][] more = {Arrays.copyOf(Family.bytes(), Family.bytes().length - 1), Arrays.copyOf(longest(), MOST - 1),
            new FileMaker().type(-1).type(0).type(1).selector(0).plain(49, 49, 49).plain(2, 4, 0, 3, 0, 19, 49).bytes(),
            new FileMaker().type(-1, 2).selector(2, 2).plain(2, 2, 2, 49).plain(49, 3, 8).bytes()};
        byte[][] all = Arrays.copyOf(WITH_FAULTS, WITH_FAULTS.length + more.length);
        System.arraycopy(more, 0, all, WITH_FAULTS.length, more.length);
        for (byte[] faulty : all) {
            Check.due("faulty", Check.load(none, faulty), Check.THROWN);
            Check.due("no FILE stays none", Family.answers(none).equals(ofNone), true);
            Check.due("none was good", none.total(4), 0);
            Check.due("faulty", Check.load(judge, faulty), Check.THROWN);
            Check.due("the FILE stays", Family.answers(judge).equals(ofFamily), true);
            Check.due("one was good", judge.total(4), 1);
        }
    }

    /** Promise 4: "The FAULT of the latest load()" */
    static void latestLoad() {
        KindJudge judge = new KindJudge();
        Check.load(judge, WITH_FAULT_3);
        Check.fault("FAULT 3", judge, 3, 0, 0);
        Check.put(judge, new FileMaker().plain(49).plain(49).plain(0, 1, 5, 200).bytes());
        Check.fault("a put() is no load()", judge, 3, 0, 0);
        Check.load(judge);
        Check.fault("FAULT 2", judge, 2, 3, 2);
        judge.total(0);
        judge.put(0, 0);
        Check.look(judge, 0, 0, 0);
        Check.fault("other calls change nothing", judge, 2, 3, 2);
        Check.load(judge, WITH_FAULT_1);
        Check.fault("FAULT 1", judge, 1, 2, 0);
        Check.load(judge, new FileMaker().plain(49).plain(49, 200).bytes());
        Check.fault("FAULT 2 again", judge, 2, 1, 1);
        Check.load(judge, SMALLEST);
        Check.fault("none", judge, 0, 0, 0);
        Check.load(judge);
        Check.fault("nothing put", judge, 1, 0, 0);
    }

    /** Promise 4: "what 0: its kind (0 without)" */
    static void faultKind() {
        for (int kind = 1; kind <= 3; kind++) {
            KindJudge judge = new KindJudge();
            Check.load(judge, WITH_FAULTS[kind]);
            Check.due("kind", judge.fault(0), kind);
            Check.load(judge, SMALLEST);
            Check.due("without", judge.fault(0), 0);
        }
    }

    /** Promise 4: "1: its place (of kind 1 which byte, else the PLACE; 0 without)" */
    static void faultPlace() {
        KindJudge judge = new KindJudge();
        Check.load(judge, new byte[] {0, 0, 1, 0, 0, 9});
        Check.due("of kind 1", judge.fault(1), 5);
        Check.load(judge, new FileMaker().plain(49, 49, 54).bytes());
        Check.due("of kind 2, not which byte", judge.fault(1), 2);
        Check.load(judge, new FileMaker().plain(49).plain(52, 5, 5, 49).bytes());
        Check.due("of kind 3, not which byte", judge.fault(1), 2);
        Check.load(judge, SMALLEST);
        Check.due("without", judge.fault(1), 0);
    }

    /** Promise 4: "2: the METHOD (0 of kind 1, or without)" */
    static void faultMethod() {
        KindJudge judge = new KindJudge();
        for (int m = 0; m < 16; m++) {
            for (int last = 54; last >= 50; last -= 4) {
                FileMaker maker = new FileMaker();
                for (int k = 0; k < m; k++) {
                    maker.plain(49);
                }
                Check.load(judge, maker.plain(2, last).bytes());
                Check.due("of kind " + (last == 54 ? 2 : 3), judge.fault(2), m);
            }
            Check.load(judge, m % 2 == 0 ? SMALLEST : Arrays.copyOf(SMALLEST, 10));
            Check.due(m % 2 == 0 ? "without" : "of kind 1", judge.fault(2), 0);
        }
        byte[] second = new FileMaker().plain(49).plain(49).bytes();
        second[9] = 9;
        Check.load(judge, second);
        Check.fault("of kind 1 in the second METHOD", judge, 1, 9, 0);
    }

    /** Promise 4: "NONE for another what" */
    static void faultOfAnotherWhat() {
        KindJudge judge = new KindJudge();
        int[] none = FileMaker.join(new int[] {3, 4, 5}, FAR);
        for (byte[] faulty : WITH_FAULTS) {
            for (int what : none) {
                Check.due("fault(" + what + ")", judge.fault(what), NONE);
            }
            Check.load(judge, faulty);
        }
        Check.load(judge, SMALLEST);
        for (int what : none) {
            Check.due("fault(" + what + ") without", judge.fault(what), NONE);
        }
    }

    /** Promise 4: "All are 0 ahead of any load()." */
    static void faultAheadOfAnyLoad() {
        KindJudge judge = new KindJudge();
        Check.fault("new", judge, 0, 0, 0);
        Check.put(judge, WITH_FAULT_2);
        Check.fault("bytes with a FAULT are put together", judge, 0, 0, 0);
    }

    public static void main(String[] args) {
        Check.all(LoadEdgeTests.class);
    }
}
