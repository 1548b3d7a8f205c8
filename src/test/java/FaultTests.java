import java.util.Arrays;

/** The three FAULTS, by bytes and PLACES that were worked out by hand. */
public final class FaultTests {
    private static byte[] raw(int... bytes) {
        byte[] row = new byte[bytes.length];
        for (int i = 0; i < bytes.length; i++) {
            row[i] = (byte) bytes[i];
        }
        return row;
    }

    private static void fileFault(String what, int place, int... bytes) {
        Check.loads("fault 1, " + what, raw(bytes), 1, place, 0);
    }

    private static void good(String what, int... bytes) {
        Check.loads("good, " + what, raw(bytes), 0, 0, 0);
    }

    private static void classesInFile() {
        fileFault("nine classes", 0, 9);
        fileFault("255 classes", 0, 255);
        fileFault("no super of the first", 1, 1, 1, 0, 0, 1, 0, 0, 0, 0, 1, 49);
        fileFault("its own super", 3, 2, 0, 0, 2, 0, 0, 1, 0, 0, 0, 0, 1, 49);
        good("the one ahead as super", 2, 0, 0, 1, 0, 0, 1, 0, 0, 0, 0, 1, 49);
        fileFault("five fields", 2, 1, 0, 5, 1, 1, 1, 1, 1, 0, 1, 0, 0, 0, 0, 1, 49);
        good("four fields", 1, 0, 4, 1, 2, 16, 1, 0, 1, 0, 0, 0, 0, 1, 49);
        good("a field of a later class", 2, 0, 1, 17, 0, 0, 0, 1, 0, 0, 0, 0, 1, 49);
        fileFault("a field of no class", 3, 1, 0, 1, 17, 0, 1, 0, 0, 0, 0, 1, 49);
        int[] noTypes = {0, 3, 4, 14, 15, 24, 255};
        for (int t : noTypes) {
            fileFault("a field of type " + t, 4, 1, 0, 2, 1, t, 0, 1, 0, 0, 0, 0, 1, 49);
        }
        good("eight fields", 3, 0, 4, 1, 1, 1, 1, 1, 4, 1, 1, 1, 1, 2, 0, 0, 1, 0, 0, 0, 0, 1, 49);
        fileFault("a ninth field", 14, 3, 0, 4, 1, 1, 1, 1, 1, 4, 1, 1, 1, 1, 2, 1, 1, 0, 1, 0, 0, 0, 0, 1, 49);
        fileFault("nine fields by four", 11, 3, 0, 4, 1, 1, 1, 1, 1, 1, 1, 2, 4, 1, 1, 1, 1);
    }

    private static void selectorsInFile() {
        fileFault("nine selectors", 1, 0, 9);
        good("eight selectors", 0, 8, 0, 0, 0, 0, 0, 0, 0, 0, 0, 0, 0, 0, 0, 0, 0, 0, 1, 0, 0, 0, 0, 1, 49);
        fileFault("four parameters", 2, 0, 1, 4, 1, 1, 1, 1, 0, 1, 0, 0, 0, 0, 1, 49);
        good("three parameters", 0, 1, 3, 1, 2, 1, 2, 1, 0, 0, 0, 0, 1, 49);
        fileFault("a parameter of no type", 4, 0, 1, 2, 1, 0, 0, 1, 0, 0, 0, 0, 1, 49);
        fileFault("a parameter of no class", 3, 0, 1, 1, 16, 0, 1, 0, 0, 0, 0, 1, 49);
        fileFault("returns no type", 3, 0, 1, 0, 3, 1, 0, 0, 0, 0, 1, 49);
        fileFault("returns ANY", 3, 0, 1, 0, 15, 1, 0, 0, 0, 0, 1, 49);
    }

    private static void methodsInFile() {
        fileFault("no methods", 2, 0, 0, 0);
        fileFault("17 methods", 2, 0, 0, 17);
        fileFault("five parameters", 3, 0, 0, 1, 5, 1, 1, 1, 1, 1, 0, 5, 0, 1, 49);
        good("four parameters", 0, 0, 1, 4, 1, 1, 1, 1, 0, 4, 0, 1, 49);
        fileFault("a parameter of no type", 4, 0, 0, 1, 1, 15, 0, 1, 0, 1, 49);
        fileFault("returns no type", 4, 0, 0, 1, 0, 16, 0, 0, 1, 49);
        fileFault("fewer locals than parameters", 7, 0, 0, 1, 2, 1, 1, 0, 1, 0, 1, 49);
        fileFault("nine locals", 5, 0, 0, 1, 0, 0, 9, 0, 1, 49);
        good("eight locals", 0, 0, 1, 0, 0, 8, 8, 1, 49);
        fileFault("a stack of nine", 6, 0, 0, 1, 0, 0, 0, 9, 1, 49);
        fileFault("no code", 7, 0, 0, 1, 0, 0, 0, 0, 0);
        fileFault("121 bytes of code", 7, 0, 0, 1, 0, 0, 0, 0, 121, 49);
        fileFault("code is not looked at", 9, 0, 0, 1, 0, 0, 0, 0, 1, 255, 0);
        fileFault("its length alone is told", 10, 0, 0, 1, 0, 0, 0, 0, 5, 255, 255);
        FileMaker most = new FileMaker();
        for (int m = 0; m < 16; m++) {
            most.plain(49);
        }
        Check.loads("good, 16 methods", most.bytes(), 0, 0, 0);
        int[] code = new int[120];
        Arrays.fill(code, 2);
        for (int i = 1; i < 119; i += 2) {
            code[i] = 5;
        }
        code[118] = 49;
        code[119] = 49;
        Check.loads("good, 120 bytes of code", new FileMaker().plain(code).bytes(), 0, 0, 0);
    }

    private static void tableInFile() {
        int[] front = {2, 0, 0, 1, 0, 1, 1, 2, 1, 5};
        int[][] methods = {
            {2, 16, 2, 1, 2, 1, 3, 0, 0, 50},
            {2, 17, 2, 1, 2, 1, 3, 0, 0, 50},
            {2, 16, 1, 1, 2, 1, 3, 0, 0, 50},
            {2, 16, 2, 0, 2, 0, 1, 49},
            {3, 16, 2, 2, 1, 3, 1, 3, 0, 0, 50}};
        int[] all = FileMaker.join(front, methods[0], methods[1], methods[2], methods[3], methods[4]);
        int at = all.length;
        good("table of 0, 0", FileMaker.join(all, new int[] {0, 0}));
        good("table of 1, 1", FileMaker.join(all, new int[] {1, 1}));
        good("table of 1, 2", FileMaker.join(all, new int[] {1, 2}));
        good("table of 0, 2", FileMaker.join(all, new int[] {0, 2}));
        fileFault("first parameter below", at, FileMaker.join(all, new int[] {2, 1}));
        fileFault("other parameter", at + 1, FileMaker.join(all, new int[] {0, 3}));
        fileFault("other return", at + 1, FileMaker.join(all, new int[] {0, 4}));
        fileFault("one parameter more", at, FileMaker.join(all, new int[] {5, 1}));
        fileFault("no such method", at, FileMaker.join(all, new int[] {6, 1}));
        fileFault("255", at, FileMaker.join(all, new int[] {255, 1}));
        fileFault("no table", at, all);
        fileFault("half a table", at + 1, FileMaker.join(all, new int[] {1}));
        fileFault("more behind the end", at + 2, FileMaker.join(all, new int[] {1, 1, 0}));
        fileFault("much more behind the end", at + 2, FileMaker.join(all, new int[] {1, 1, 0, 7, 9, 3}));
        Check.loads("fault 1, no first parameter",
            new FileMaker().type(-1).selector(0).plain(49).table(1).bytes(), 1, 13, 0);
        Check.loads("fault 1, INT first",
            new FileMaker().type(-1).selector(0).method(FileMaker.types(1), 0, 1, 0, 49).table(1).bytes(), 1, 14, 0);
        Check.loads("fault 1, another class first",
            new FileMaker().type(-1).type(-1).selector(0).method(FileMaker.types(17), 0, 1, 0, 49).table(1, 1).bytes(), 1, 16, 0);
    }

    private static void tooEarlyAnEnd() {
        byte[] whole = new FileMaker().type(-1, 1, 2).type(0, 17).selector(1, 1, 2)
            .method(FileMaker.types(16, 1, 2), 1, 4, 2, 3, 1, 50)
            .method(FileMaker.types(), 0, 0, 0, 49)
            .table(1, 0).bytes();
        Check.loads("whole", whole, 0, 0, 0);
        for (int n = 0; n < whole.length; n++) {
            Check.loads("its first " + n + " bytes", Arrays.copyOf(whole, n), 1, n, 0);
        }
    }

    private static void longestFile() {
        FileMaker maker = new FileMaker();
        for (int m = 0; m < 12; m++) {
            int length = m < 11 ? 120 : 117;
            int[] code = new int[length];
            Arrays.fill(code, 49);
            maker.plain(code);
        }
        byte[] file = maker.bytes();
        Check.due("longest file's bytes", file.length, 1500);
        Check.loads("longest file", file, 0, 0, 0);
        int[] code = {49, 49, 200};
        KindJudge judge = Check.loads("last of many", new FileMaker().plain(49).plain(code).plain(200).bytes(), 2, 2, 1);
        Check.due("no file of it", judge.total(0), 0);
    }

    private static void codeFault(String what, int place, int... code) {
        byte[] file = new FileMaker().type(-1, 1).type(0, 2, 16).selector(0)
            .method(FileMaker.types(1, 16), 0, 3, 8, 49)
            .method(FileMaker.types(1, 16), 0, 3, 8, code)
            .bytes();
        Check.loads("fault 2, " + what, file, place < 0 ? 0 : 2, Math.max(place, 0), place < 0 ? 0 : 1);
    }

    private static void unknownInstructions() {
        for (int b = 54; b <= 255; b++) {
            codeFault("byte " + b, 2, 0, 1, b, 49);
        }
        codeFault("going on at one that is none", 2, 21, 2, 54, 49);
        codeFault("none begins behind it", 0, 21, 3, 54, 49);
        codeFault("none begins behind a short one", 0, 21, 3, 1, 0);
        codeFault("going on at a short one", 2, 21, 2, 1, 0);
        int[] sizes = {2, 3, 1, 2, 2, 1, 1, 1};
        for (int op = 0; op < sizes.length; op++) {
            for (int n = 1; n < sizes[op]; n++) {
                int[] code = new int[1 + n];
                code[0] = 49;
                code[1] = op;
                codeFault("short " + op, 1, code);
            }
        }
        codeFault("short 20", 1, 49, 20, 0);
        codeFault("short 21", 1, 49, 21);
        codeFault("short 39", 1, 49, 39, 0);
        codeFault("short 40", 1, 49, 40, 0);
        codeFault("short 45", 1, 49, 45);
        codeFault("short 47", 1, 49, 47);
        codeFault("short 48", 1, 49, 48);
        codeFault("short 53", 1, 49, 53);
        codeFault("53 with n alone", 1, 49, 53, 1);
        codeFault("53 short of one", 1, 49, 53, 1, 0);
        codeFault("53 whole", -1, 49, 53, 1, 0, 0);
        codeFault("53 with another n", 1, 49, 53, 0, 0, 49);
        codeFault("53 with 0 is as long as it tells", 2, 21, 5, 53, 0, 0, 49);
        codeFault("53 with 0 ends at 5 alone", 0, 21, 4, 53, 0, 0, 49);
        codeFault("53 with 9", 2, 21, 14, 53, 9, 0, 0, 0, 0, 0, 0, 0, 0, 0, 0, 49);
        codeFault("53 with 9 ends at 14 alone", 0, 21, 13, 53, 9, 0, 0, 0, 0, 0, 0, 0, 0, 0, 0, 49);
        codeFault("53 with 200 is too long", 2, 21, 2, 53, 200, 0, 49);
        codeFault("none begins behind 53 with 200", 0, 21, 5, 53, 200, 0, 49);
    }

    private static void namesInCode() {
        int[] locals = {3, 4, 20};
        for (int op : locals) {
            codeFault("local 2 of " + op, -1, 49, op, 2, op == 20 ? 5 : 2, 49);
            codeFault("local 3 of " + op, 1, 49, op, 3, op == 20 ? 5 : 2, 49);
            codeFault("local 255 of " + op, 1, 49, op, 255, op == 20 ? 5 : 2, 49);
        }
        int[] classes = {38, 45, 46};
        for (int op : classes) {
            codeFault("class 1 of " + op, -1, 49, op, 1, 49);
            codeFault("class 2 of " + op, 1, 49, op, 2, 49);
            codeFault("class 255 of " + op, 1, 49, op, 255, 49);
        }
        for (int op = 39; op <= 40; op++) {
            codeFault("field 0 of 0", -1, 49, op, 0, 0, 49);
            codeFault("field 1 of 0", 1, 49, op, 0, 1, 49);
            codeFault("field 2 of 1", -1, 49, op, 1, 2, 49);
            codeFault("field 3 of 1", 1, 49, op, 1, 3, 49);
            codeFault("field 0 of 2", 1, 49, op, 2, 0, 49);
            codeFault("field 255 of 1", 1, 49, op, 1, 255, 49);
        }
        codeFault("method 1", -1, 49, 47, 1, 49);
        codeFault("method 2", 1, 49, 47, 2, 49);
        codeFault("selector 0", -1, 49, 48, 0, 49);
        codeFault("selector 1", 1, 49, 48, 1, 49);
    }

    private static void placesInCode() {
        for (int op = 21; op <= 37; op++) {
            codeFault("jump to 0 by " + op, -1, 49, op, 0, 49);
            codeFault("jump to itself by " + op, -1, 49, op, 1, 49);
            codeFault("jump into itself by " + op, 1, 49, op, 2, 49);
            codeFault("jump to the end by " + op, 1, 49, op, 4, 49);
            codeFault("jump far by " + op, 1, 49, op, 255, 49);
            codeFault("jump by the last " + op, op == 21 ? -1 : 1, 49, op, 0);
        }
        codeFault("53 at the end", -1, 49, 53, 2, 0, 1, 1);
        codeFault("53 into another", 1, 49, 53, 2, 0, 1, 4, 49);
        codeFault("53 into its first", 1, 49, 53, 2, 3, 1, 1, 49);
        codeFault("53 out of it", 1, 49, 53, 2, 0, 120, 1, 49);
        codeFault("ends with 0", 1, 49, 0, 1);
        codeFault("ends with 47", 1, 49, 47, 0);
        codeFault("ends with 51", 1, 49, 51);
        codeFault("ends with 50", -1, 49, 50);
        codeFault("the least place", 2, 0, 1, 3, 9, 3, 9, 54);
    }

    private static void leastMethod() {
        byte[] file = new FileMaker().plain(5, 49).plain(49, 54).plain(54).bytes();
        Check.loads("fault 2 ahead of fault 3", file, 2, 1, 1);
        file = new FileMaker().plain(49).plain(0, 1, 5, 5, 49).plain(5, 49).bytes();
        Check.loads("fault 3 of the least method", file, 3, 3, 1);
        file = new FileMaker().type(-1).selector(0).plain(54).table(9).bytes();
        Check.loads("fault 1 ahead of fault 2", file, 1, 13, 0);
    }

    private static void typeFault(String what, int place, int returned, int stack, int... code) {
        byte[] file = new FileMaker().type(-1, 1, 17).type(0, 2).type(-1)
            .selector(1, 2).selector(0)
            .method(FileMaker.types(16, 2), 1, 2, 1, 0, 1, 50)
            .method(FileMaker.types(1, 2, 16, 17), returned, 6, stack, code)
            .method(FileMaker.types(17), 0, 1, 0, 49)
            .table(1, 0, 0, 3, 0, 0)
            .bytes();
        Check.loads("fault 3, " + what, file, place < 0 ? 0 : 3, Math.max(place, 0), place < 0 ? 0 : 1);
    }

    private static void heights() {
        typeFault("room for one", -1, 0, 1, 0, 1, 49);
        typeFault("no room", 0, 0, 0, 0, 1, 49);
        typeFault("room for two", -1, 0, 2, 0, 1, 6, 49);
        typeFault("no room for two", 2, 0, 1, 0, 1, 6, 49);
        typeFault("takes none", 0, 0, 8, 5, 49);
        typeFault("takes two of one", 2, 0, 8, 0, 1, 8, 49);
        typeFault("takes and puts in full room", -1, 0, 2, 0, 1, 0, 1, 8, 49);
        typeFault("swap in full room", -1, 0, 2, 0, 1, 0, 1, 7, 49);
        typeFault("a call in full room", -1, 0, 2, 3, 2, 3, 1, 47, 0, 49);
        typeFault("heights differ", 5, 0, 8, 52, 22, 5, 0, 1, 49);
        typeFault("behind one that clashes", 0, 0, 8, 52, 22, 5, 0, 1, 2, 21, 0);
        typeFault("behind one that takes too much", 2, 0, 8, 21, 3, 49, 5, 21, 2);
        typeFault("behind one without room", 2, 0, 0, 21, 3, 49, 2, 21, 2);
        typeFault("behind one that is wrong by types", 4, 0, 8, 21, 3, 49, 2, 19, 5, 21, 2);
        typeFault("the stack grows in a loop", 0, 0, 8, 2, 21, 0);
        typeFault("what can't be come to is not wrong", -1, 0, 0, 49, 5, 5, 19, 50);
    }

    public static void main(String[] args) {
        classesInFile();
        selectorsInFile();
        methodsInFile();
        tableInFile();
        tooEarlyAnEnd();
        longestFile();
        unknownInstructions();
        namesInCode();
        placesInCode();
        leastMethod();
        heights();
        Check.end();
    }
}
