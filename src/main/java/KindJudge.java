import java.util.NoSuchElementException;

/**
 * Reads a FILE of classes and methods in bytes, judges its INSTRUCTIONS by types, and answers what is
 * known of them. The words in capitals are those of the document.
 */
public final class KindJudge {
    public static final int NONE = -1;

    private static final int NO = 0;
    private static final int INT = 1;
    private static final int ARRAY = 2;
    private static final int NULL = 3;
    private static final int ANY = 15;
    private static final int REF = 16;

    private static final int FIRST_OF_STACK = 100;

    // A load that fails leaves the FILE alone, so what is put together is judged in rows of its own,
    // and the two change places only when it is good.
    private Book file;
    private Book draft;
    private int goodFiles;
    private int faultKind;
    private int faultPlace;
    private int faultMethod;

    public KindJudge() {
        file = new Book();
        draft = new Book();
    }

    public boolean put(long word, int n) {
        return draft.bytes.append(word, n);
    }

    public int load() throws IllegalArgumentException {
        findFault();
        if (faultKind != 0) {
            draft.bytes.clear();
            throw new IllegalArgumentException("what was put together has a fault");
        }
        Book older = file;
        file = draft;
        draft = older;
        draft.bytes.clear();
        goodFiles++;
        return file.layout.methods.number;
    }

    public int fault(int what) {
        if (what == 0) {
            return faultKind;
        }
        if (what == 1) {
            return faultPlace;
        }
        return what == 2 ? faultMethod : NONE;
    }

    public int kind(int method, int place, int i) {
        if (!file.code.begins(method, place)) {
            return NONE;
        }
        int height = file.flow.heightAhead(method, place);
        if (height == NONE) {
            return NONE;
        }
        if (i >= 0 && i < file.layout.localsOf(method)) {
            return file.flow.kindAhead(method, place, i);
        }
        if (i >= FIRST_OF_STACK && i - FIRST_OF_STACK < height) {
            return file.flow.kindAhead(method, place, Flow.STACK + i - FIRST_OF_STACK);
        }
        return NONE;
    }

    public int look(int method, int place, int what) throws NoSuchElementException {
        if (what < 0 || what > 5 || !file.code.begins(method, place)) {
            throw new NoSuchElementException("no such instruction, or nothing such of it");
        }
        int op = file.code.byteOf(method, place, 0);
        int first = file.code.byteOf(method, place, 1);
        int height = file.flow.heightAhead(method, place);
        switch (what) {
            case 0:
                return op;
            case 1:
                return file.code.sizeOf(method, place);
            case 2:
                return file.code.takes(op, first);
            case 3:
                return file.code.puts(op, first);
            case 4:
                return height == NONE ? 0 : 1;
            default:
                return height == NONE ? 0 : height;
        }
    }

    public int ways(int method, int place) {
        if (!file.code.begins(method, place)) {
            return NONE;
        }
        int found = place == 0 ? 1 : 0;
        int length = file.layout.lengthOf(method);
        for (int from = 0; from < length; from++) {
            if (mayBeComeTo(method, from) && file.code.leadsTo(method, from, place)) {
                found++;
            }
        }
        return found;
    }

    public int count(int method, int what) {
        if (!file.layout.methods.has(method) || what < 0 || what > 2) {
            return NONE;
        }
        return what == 2 ? highestBehind(method) : instructions(method, what == 0);
    }

    public int fits(int kind, int type) {
        Classes classes = file.layout.classes;
        if (goodFiles == 0 || kind == NO || !classes.isKind(kind) || !classes.isType(type)) {
            return NONE;
        }
        return classes.isFit(kind, type) ? 1 : 0;
    }

    public int meet(int a, int b) {
        Classes classes = file.layout.classes;
        if (goodFiles == 0 || !classes.isKind(a) || !classes.isKind(b)) {
            return NONE;
        }
        return classes.together(a, b);
    }

    public int method(int c, int selector) {
        return file.layout.methodFor(c, selector);
    }

    public int type(int c, int what) {
        Classes classes = file.layout.classes;
        if (!classes.has(c) || what < 0) {
            return NONE;
        }
        if (what == 0) {
            return classes.superOf(c);
        }
        return what == 1 ? classes.fieldsOf(c) : classes.fieldType(c, what - 2);
    }

    public int total(int what) {
        switch (what) {
            case 0:
                return file.layout.methods.number;
            case 1:
                return file.layout.classes.number;
            case 2:
                return file.layout.selectors.number;
            case 3:
                return draft.bytes.length;
            case 4:
                return goodFiles;
            default:
                return NONE;
        }
    }

    private void findFault() {
        keepFault(0, 0, 0);
        if (!draft.layout.read()) {
            keepFault(1, draft.layout.faultPlace(), 0);
            return;
        }
        int methods = draft.layout.methods.number;
        for (int m = 0; m < methods; m++) {
            int place = draft.code.firstFault(m);
            if (place != NONE) {
                keepFault(2, place, m);
                return;
            }
        }
        for (int m = 0; m < methods; m++) {
            draft.flow.settle(m);
            int place = draft.flow.firstWrong(m);
            if (place != NONE) {
                keepFault(3, place, m);
                return;
            }
        }
    }

    private void keepFault(int kindOfFault, int place, int m) {
        faultKind = kindOfFault;
        faultPlace = place;
        faultMethod = m;
    }

    private boolean mayBeComeTo(int m, int place) {
        return file.flow.heightAhead(m, place) != NONE;
    }

    private int instructions(int m, boolean comeTo) {
        int found = 0;
        int length = file.layout.lengthOf(m);
        for (int place = 0; place < length; place++) {
            if (file.code.begins(m, place) && mayBeComeTo(m, place) == comeTo) {
                found++;
            }
        }
        return found;
    }

    private int highestBehind(int m) {
        int highest = 0;
        int length = file.layout.lengthOf(m);
        for (int place = 0; place < length; place++) {
            if (mayBeComeTo(m, place)) {
                highest = Math.max(highest, file.flow.heightBehind(m, place));
            }
        }
        return highest;
    }

    /** One FILE with all that is known of it. */
    private static final class Book {
        final Bytes bytes;
        final Layout layout;
        final Code code;
        final Flow flow;

        Book() {
            Bytes row = new Bytes();
            Layout parts = new Layout(row);
            Code instructions = new Code(row, parts);
            bytes = row;
            layout = parts;
            code = instructions;
            flow = new Flow(parts, instructions);
        }
    }

    /** A row of bytes that grows at its end. */
    private static final class Bytes {
        static final int MOST = 1500;

        private final byte[] row = new byte[MOST];
        private int length;

        boolean append(long word, int n) {
            if (n < 1 || n > 8 || n > MOST - length) {
                return false;
            }
            for (int shift = 8 * (n - 1); shift >= 0; shift -= 8) {
                row[length] = (byte) (word >> shift);
                length++;
            }
            return true;
        }

        void clear() {
            length = 0;
        }

        /** The byte without sign, NONE behind the end. */
        int at(int i) {
            return i >= 0 && i < length ? row[i] & 255 : NONE;
        }
    }

    /** Goes through bytes from the first on, and stays for good at one that is not as told. */
    private static final class Reader {
        private final Bytes bytes;
        private int at;
        private boolean stopped;

        Reader(Bytes bytes) {
            this.bytes = bytes;
        }

        void begin() {
            at = 0;
            stopped = false;
        }

        boolean goesOn() {
            return !stopped;
        }

        boolean isAtEnd() {
            return !stopped && at == bytes.length;
        }

        int place() {
            return at;
        }

        /** The byte that comes next, NONE if there is none. */
        int ahead() {
            return stopped ? NONE : bytes.at(at);
        }

        /** Goes past the byte that comes next if it is as told. */
        boolean pass(boolean asTold) {
            if (!asTold || stopped || at >= bytes.length) {
                stopped = true;
                return false;
            }
            at++;
            return true;
        }

        int number(int least, int most) {
            int b = ahead();
            return pass(b >= least && b <= most) ? b : least;
        }

        /** A TYPE that a FILE may tell; 0 for nothing, where that may be told too. */
        int typeAmong(int classes, boolean nothingToo) {
            int b = ahead();
            boolean asTold = b == INT || b == ARRAY || b >= REF && b < REF + classes || nothingToo && b == 0;
            return pass(asTold) ? b : INT;
        }

        void skip(int n) {
            if (stopped || n > bytes.length - at) {
                // Too early an end is told by the FILE's length, not by where the skipped part began.
                at = stopped ? at : bytes.length;
                stopped = true;
            } else {
                at += n;
            }
        }
    }

    /** The classes of a FILE, and what follows from them for KINDS. */
    private static final class Classes {
        static final int MOST = 8;
        static final int MOST_FIELDS = 8;
        static final int MOST_ADDED = 4;

        private final int[] supers = new int[MOST];
        private final int[] fieldCounts = new int[MOST];
        private final int[] fieldTypes = new int[MOST * MOST_FIELDS];
        // Bit d of entry c: class c is class d or BELOW it.
        private final int[] above = new int[MOST];
        private int number;

        void read(Reader reader) {
            number = reader.number(0, MOST);
            for (int c = 0; c < number && reader.goesOn(); c++) {
                readOne(reader, c);
            }
        }

        private void readOne(Reader reader, int c) {
            int parent = reader.number(0, c) - 1;
            int inherited = parent >= 0 ? fieldCounts[parent] : 0;
            int added = reader.number(0, Math.min(MOST_ADDED, MOST_FIELDS - inherited));
            supers[c] = parent;
            fieldCounts[c] = inherited + added;
            above[c] = 1 << c;
            if (parent >= 0) {
                above[c] |= above[parent];
            }
            for (int f = 0; f < inherited; f++) {
                fieldTypes[c * MOST_FIELDS + f] = fieldTypes[parent * MOST_FIELDS + f];
            }
            for (int f = inherited; f < inherited + added; f++) {
                fieldTypes[c * MOST_FIELDS + f] = reader.typeAmong(number, false);
            }
        }

        boolean has(int c) {
            return c >= 0 && c < number;
        }

        int superOf(int c) {
            return c >= 0 && c < number ? supers[c] : NONE;
        }

        int fieldsOf(int c) {
            return c >= 0 && c < number ? fieldCounts[c] : 0;
        }

        int fieldType(int c, int f) {
            return f >= 0 && f < fieldsOf(c) ? fieldTypes[c * MOST_FIELDS + f] : NONE;
        }

        boolean isOrIsBelow(int c, int d) {
            return c >= 0 && c < number && d >= 0 && d < number && (above[c] >> d & 1) == 1;
        }

        boolean isKind(int k) {
            return k == NO || k == NULL || isType(k);
        }

        boolean isType(int t) {
            return t == INT || t == ARRAY || t == ANY || t >= REF && t - REF < number;
        }

        boolean isFit(int k, int t) {
            if (k == t) {
                return true;
            }
            if (k == NULL) {
                return t != INT;
            }
            return k >= REF && (t == ANY || t >= REF && isOrIsBelow(k - REF, t - REF));
        }

        /** The KIND where two KINDS come together. */
        int together(int a, int b) {
            if (a == b) {
                return a;
            }
            if (a == NULL || b == NULL) {
                int other = a == NULL ? b : a;
                return other == ARRAY || other >= ANY ? other : NO;
            }
            if (a < ANY || b < ANY) {
                return NO;
            }
            // A SUPER is ahead of its class, so the last of the common classes is the lowest.
            for (int d = Math.min(a, b) - REF; d >= 0; d--) {
                if (isOrIsBelow(a - REF, d) && isOrIsBelow(b - REF, d)) {
                    return REF + d;
                }
            }
            return ANY;
        }
    }

    /** PARAMETERS and what is RETURNED, of SELECTORS or of METHODS. */
    private static final class Signatures {
        static final int MOST = 16;
        static final int MOST_PARAMETERS = 4;

        private final int[] counts = new int[MOST];
        private final int[] types = new int[MOST * MOST_PARAMETERS];
        private final int[] returned = new int[MOST];
        private int number;

        void readNumber(Reader reader, int least, int most) {
            number = reader.number(least, Math.min(most, MOST));
        }

        void readOne(Reader reader, int s, int mostParameters, int classes) {
            if (s < 0 || s >= MOST) {
                return;
            }
            counts[s] = reader.number(0, Math.min(mostParameters, MOST_PARAMETERS));
            for (int i = 0; i < counts[s]; i++) {
                types[s * MOST_PARAMETERS + i] = reader.typeAmong(classes, false);
            }
            returned[s] = reader.typeAmong(classes, true);
        }

        boolean has(int s) {
            return s >= 0 && s < number;
        }

        int parametersOf(int s) {
            return s >= 0 && s < number ? counts[s] : 0;
        }

        /** The TYPE of a PARAMETER, NONE if there is none such. */
        int parameter(int s, int i) {
            return i >= 0 && i < parametersOf(s) ? types[s * MOST_PARAMETERS + i] : NONE;
        }

        /** The TYPE that is RETURNED, 0 for nothing. */
        int returnedBy(int s) {
            return s >= 0 && s < number ? returned[s] : 0;
        }
    }

    /** The parts of a FILE, and where in it the CODE of each METHOD is. */
    private static final class Layout {
        static final int MOST_SELECTORS = 8;
        static final int MOST_OF_SELECTOR = 3;
        static final int MOST_LOCALS = 8;
        static final int MOST_STACK = 8;
        static final int MOST_CODE = 120;

        final Classes classes = new Classes();
        final Signatures selectors = new Signatures();
        final Signatures methods = new Signatures();
        private final Reader reader;
        private final int[] locals = new int[Signatures.MOST];
        private final int[] stacks = new int[Signatures.MOST];
        private final int[] starts = new int[Signatures.MOST];
        private final int[] lengths = new int[Signatures.MOST];
        private final int[] table = new int[Classes.MOST * MOST_SELECTORS];

        Layout(Bytes bytes) {
            reader = new Reader(bytes);
        }

        /** Whether the bytes are a FILE without FAULT 1. */
        boolean read() {
            reader.begin();
            classes.read(reader);
            selectors.readNumber(reader, 0, MOST_SELECTORS);
            for (int s = 0; s < selectors.number && reader.goesOn(); s++) {
                selectors.readOne(reader, s, MOST_OF_SELECTOR, classes.number);
            }
            methods.readNumber(reader, 1, Signatures.MOST);
            for (int m = 0; m < methods.number && reader.goesOn(); m++) {
                readMethod(m);
            }
            for (int c = 0; c < classes.number && reader.goesOn(); c++) {
                readTableOf(c);
            }
            return reader.isAtEnd();
        }

        int faultPlace() {
            return reader.place();
        }

        private void readMethod(int m) {
            methods.readOne(reader, m, Signatures.MOST_PARAMETERS, classes.number);
            if (!methods.has(m)) {
                return;
            }
            locals[m] = reader.number(methods.parametersOf(m), MOST_LOCALS);
            stacks[m] = reader.number(0, MOST_STACK);
            lengths[m] = reader.number(1, MOST_CODE);
            starts[m] = reader.place();
            reader.skip(lengths[m]);
        }

        private void readTableOf(int c) {
            int parent = classes.superOf(c);
            for (int s = 0; s < selectors.number && reader.goesOn(); s++) {
                int told = reader.ahead();
                boolean asTold = reader.pass(told == 0 || told > 0 && isGoodFor(told - 1, c, s));
                if (asTold && told > 0) {
                    table[c * MOST_SELECTORS + s] = told - 1;
                } else {
                    table[c * MOST_SELECTORS + s] = parent < 0 ? NONE : table[parent * MOST_SELECTORS + s];
                }
            }
        }

        private boolean isGoodFor(int m, int c, int s) {
            int parameters = selectors.parametersOf(s);
            if (!methods.has(m) || methods.parametersOf(m) != parameters + 1) {
                return false;
            }
            if (methods.returnedBy(m) != selectors.returnedBy(s)) {
                return false;
            }
            for (int i = 0; i < parameters; i++) {
                if (methods.parameter(m, i + 1) != selectors.parameter(s, i)) {
                    return false;
                }
            }
            return classes.isOrIsBelow(c, methods.parameter(m, 0) - REF);
        }

        /** The METHOD that a class has for a SELECTOR, its SUPER's if it has none of its own, or NONE. */
        int methodFor(int c, int s) {
            return classes.has(c) && selectors.has(s) ? table[c * MOST_SELECTORS + s] : NONE;
        }

        int localsOf(int m) {
            return m >= 0 && m < methods.number ? locals[m] : 0;
        }

        int stackOf(int m) {
            return m >= 0 && m < methods.number ? stacks[m] : 0;
        }

        int lengthOf(int m) {
            return m >= 0 && m < methods.number ? lengths[m] : 0;
        }

        /** Which byte of the FILE is at a PLACE of a METHOD, NONE outside its CODE. */
        int offset(int m, int place) {
            return place >= 0 && place < lengthOf(m) ? starts[m] + place : NONE;
        }
    }

    /** INSTRUCTIONS one by one: where they begin, how long they are, what they name, where they go on. */
    private static final class Code {
        static final int NULL_PUT = 2;
        static final int LOCAL_GET = 3;
        static final int LOCAL_SET = 4;
        static final int DOUBLE = 6;
        static final int SWAP = 7;
        static final int LOCAL_ADD = 20;
        static final int GO = 21;
        static final int LAST_JUMP_BY_INTS = 33;
        static final int LAST_JUMP_BY_NULL = 35;
        static final int LAST_JUMP = 37;
        static final int NEW = 38;
        static final int FIELD_GET = 39;
        static final int FIELD_SET = 40;
        static final int ARRAY_NEW = 41;
        static final int ARRAY_GET = 42;
        static final int ARRAY_SET = 43;
        static final int ARRAY_LENGTH = 44;
        static final int IS_OF = 45;
        static final int CAST = 46;
        static final int CALL = 47;
        static final int SEND = 48;
        static final int RETURN = 49;
        static final int RETURN_IT = 50;
        static final int PUT_OUT = 51;
        static final int CHOOSE = 53;

        private static final int MOST_CHOICES = 8;

        // By the INSTRUCTION's byte. CHOOSE is longer by its n, CALL and SEND take and put what their
        // METHOD or SELECTOR tells besides.
        private static final int[] SIZES = {
            2, 3, 1, 2, 2, 1, 1, 1, 1, 1, 1, 1, 1, 1, 1, 1, 1, 1, 1, 1, 3,
            2, 2, 2, 2, 2, 2, 2, 2, 2, 2, 2, 2, 2, 2, 2, 2, 2,
            2, 3, 3, 1, 1, 1, 1, 2, 2, 2, 2, 1, 1, 1, 1, 3};
        private static final int[] TAKES = {
            0, 0, 0, 0, 1, 1, 1, 2, 2, 2, 2, 2, 2, 2, 2, 2, 2, 2, 2, 1, 0,
            0, 1, 1, 1, 1, 1, 1, 2, 2, 2, 2, 2, 2, 1, 1, 2, 2,
            0, 1, 2, 1, 2, 3, 1, 1, 1, 0, 1, 0, 1, 1, 0, 1};
        private static final int[] PUTS = {
            1, 1, 1, 1, 0, 0, 2, 2, 1, 1, 1, 1, 1, 1, 1, 1, 1, 1, 1, 1, 0,
            0, 0, 0, 0, 0, 0, 0, 0, 0, 0, 0, 0, 0, 0, 0, 0, 0,
            1, 1, 0, 1, 1, 0, 1, 1, 1, 0, 0, 0, 0, 0, 1, 0};

        private final Bytes bytes;
        private final Layout layout;
        private final boolean[] begun = new boolean[Bytes.MOST];

        Code(Bytes bytes, Layout layout) {
            this.bytes = bytes;
            this.layout = layout;
        }

        /** The least PLACE of an INSTRUCTION with FAULT 2, or NONE. */
        int firstFault(int m) {
            markBeginnings(m);
            int length = layout.lengthOf(m);
            for (int place = 0; place < length; place++) {
                if (begins(m, place) && isFaulty(m, place)) {
                    return place;
                }
            }
            return NONE;
        }

        private void markBeginnings(int m) {
            int length = layout.lengthOf(m);
            int next = 0;
            for (int place = 0; place < length; place++) {
                int at = layout.offset(m, place);
                if (at >= 0 && at < begun.length) {
                    begun[at] = place == next;
                }
                if (place == next) {
                    // One that is none has size 0, so that none begins behind it.
                    next += sizeOf(m, place);
                }
            }
        }

        boolean begins(int m, int place) {
            int at = layout.offset(m, place);
            return at >= 0 && at < begun.length && begun[at];
        }

        /** Byte k of the INSTRUCTION at a PLACE, NONE behind the CODE's end. */
        int byteOf(int m, int place, int k) {
            return bytes.at(layout.offset(m, place + k));
        }

        /** How many bytes the INSTRUCTION has, 0 if it is none. */
        int sizeOf(int m, int place) {
            int op = byteOf(m, place, 0);
            if (op < 0 || op >= SIZES.length) {
                return 0;
            }
            int size = SIZES[op];
            if (op == CHOOSE) {
                size += Math.max(0, byteOf(m, place, 1));
            }
            return size <= layout.lengthOf(m) - place ? size : 0;
        }

        int takes(int op, int first) {
            if (op < 0 || op >= TAKES.length) {
                return 0;
            }
            if (op == CALL) {
                return layout.methods.parametersOf(first);
            }
            return op == SEND ? 1 + layout.selectors.parametersOf(first) : TAKES[op];
        }

        int puts(int op, int first) {
            if (op < 0 || op >= PUTS.length) {
                return 0;
            }
            if (op == CALL) {
                return layout.methods.returnedBy(first) == 0 ? 0 : 1;
            }
            if (op == SEND) {
                return layout.selectors.returnedBy(first) == 0 ? 0 : 1;
            }
            return PUTS[op];
        }

        private boolean isFaulty(int m, int place) {
            int size = sizeOf(m, place);
            if (size == 0 || namesNothing(m, place)) {
                return true;
            }
            int targets = targetsOf(m, place);
            for (int k = 0; k < targets; k++) {
                if (!begins(m, target(m, place, k))) {
                    return true;
                }
            }
            return place + size == layout.lengthOf(m) && goesOnBehind(m, place);
        }

        /** Whether what the INSTRUCTION names is not there. */
        private boolean namesNothing(int m, int place) {
            int first = byteOf(m, place, 1);
            switch (byteOf(m, place, 0)) {
                case LOCAL_GET:
                case LOCAL_SET:
                case LOCAL_ADD:
                    return first >= layout.localsOf(m);
                case NEW:
                case IS_OF:
                case CAST:
                    return !layout.classes.has(first);
                case FIELD_GET:
                case FIELD_SET:
                    return byteOf(m, place, 2) >= layout.classes.fieldsOf(first);
                case CALL:
                    return !layout.methods.has(first);
                case SEND:
                    return !layout.selectors.has(first);
                case CHOOSE:
                    return first < 1 || first > MOST_CHOICES;
                default:
                    return false;
            }
        }

        /** How many PLACES it tells to go on at. */
        int targetsOf(int m, int place) {
            int op = byteOf(m, place, 0);
            if (op == CHOOSE) {
                return byteOf(m, place, 1) + 1;
            }
            return op >= GO && op <= LAST_JUMP ? 1 : 0;
        }

        int target(int m, int place, int k) {
            return byteOf(m, place, byteOf(m, place, 0) == CHOOSE ? k + 2 : k + 1);
        }

        boolean goesOnBehind(int m, int place) {
            int op = byteOf(m, place, 0);
            return op != GO && op != RETURN && op != RETURN_IT && op != CHOOSE;
        }

        boolean leadsTo(int m, int from, int place) {
            int targets = targetsOf(m, from);
            for (int k = 0; k < targets; k++) {
                if (target(m, from, k) == place) {
                    return true;
                }
            }
            return goesOnBehind(m, from) && from + sizeOf(m, from) == place;
        }
    }

    /** The KINDS before each INSTRUCTION, gone on with over all ways until nothing changes. */
    private static final class Flow {
        static final int STACK = 8;

        private static final int CLASH = 99;
        // Far above need: every round but the last goes on from a change, and each of 120 PLACES changes
        // some 200 times at most, as each of its 16 KINDS only ever becomes wider.
        private static final int MOST_ROUNDS = 1000000;

        private final Layout layout;
        private final Code code;
        private final byte[] heights = new byte[Bytes.MOST];
        // Sixteen KINDS of four bits each: the LOCALS, then from STACK on the STACK; NO above its height.
        private final long[] frames = new long[Bytes.MOST];
        private final boolean[] changed = new boolean[Layout.MOST_CODE];

        // The INSTRUCTION that is looked at: its bytes, the STACK's height ahead of it, less what it takes,
        // and behind it, and the KINDS ahead of it.
        private int op;
        private int first;
        private int second;
        private int height;
        private int low;
        private int behind;
        private long frame;

        Flow(Layout layout, Code code) {
            this.layout = layout;
            this.code = code;
        }

        /** The STACK's height ahead of an INSTRUCTION, NONE if it can't be come to. */
        int heightAhead(int m, int place) {
            int at = layout.offset(m, place);
            return at >= 0 && at < heights.length ? heights[at] : NONE;
        }

        int heightBehind(int m, int place) {
            open(m, place);
            return behind;
        }

        int kindAhead(int m, int place, int slot) {
            return kindIn(frameAhead(m, place), slot);
        }

        private long frameAhead(int m, int place) {
            int at = layout.offset(m, place);
            return at >= 0 && at < frames.length ? frames[at] : 0;
        }

        void settle(int m) {
            int length = Math.min(layout.lengthOf(m), changed.length);
            for (int place = 0; place < length; place++) {
                forget(m, place);
            }
            arrive(m, 0, 0, firstFrame(m));
            boolean more = true;
            for (int round = 0; more && round < MOST_ROUNDS; round++) {
                more = false;
                for (int place = 0; place < length; place++) {
                    if (changed[place]) {
                        changed[place] = false;
                        more = true;
                        spread(m, place);
                    }
                }
            }
        }

        /** The least PLACE of an INSTRUCTION that is WRONG, or NONE. */
        int firstWrong(int m) {
            int length = layout.lengthOf(m);
            for (int place = 0; place < length; place++) {
                if (heightAhead(m, place) != NONE) {
                    open(m, place);
                    if (behind == CLASH || !takesWhatIsFit(m)) {
                        return place;
                    }
                }
            }
            return NONE;
        }

        private void forget(int m, int place) {
            int at = layout.offset(m, place);
            if (at >= 0 && at < heights.length && place < changed.length) {
                heights[at] = NONE;
                changed[place] = false;
            }
        }

        private long firstFrame(int m) {
            long kinds = 0;
            int parameters = layout.methods.parametersOf(m);
            for (int i = 0; i < parameters; i++) {
                kinds = with(kinds, i, layout.methods.parameter(m, i));
            }
            return kinds;
        }

        private void open(int m, int place) {
            op = code.byteOf(m, place, 0);
            first = code.byteOf(m, place, 1);
            second = code.byteOf(m, place, 2);
            height = heightAhead(m, place);
            frame = frameAhead(m, place);
            low = height - code.takes(op, first);
            behind = low + code.puts(op, first);
            if (height == CLASH || low < 0 || behind > layout.stackOf(m)) {
                behind = CLASH;
            }
        }

        private void spread(int m, int place) {
            open(m, place);
            long kinds = behind == CLASH ? 0 : frameBehind();
            int targets = code.targetsOf(m, place);
            for (int k = 0; k < targets; k++) {
                arrive(m, code.target(m, place, k), behind, kinds);
            }
            if (code.goesOnBehind(m, place)) {
                arrive(m, place + code.sizeOf(m, place), behind, kinds);
            }
        }

        private void arrive(int m, int place, int newHeight, long kinds) {
            int at = layout.offset(m, place);
            if (at < 0 || at >= heights.length || at >= frames.length || place >= changed.length) {
                return;
            }
            int older = heights[at];
            int now = older == NONE || older == newHeight ? newHeight : CLASH;
            long joined = older == NONE ? kinds : bothFrames(frames[at], kinds);
            if (now == CLASH) {
                joined = 0;
            }
            if (now != older || joined != frames[at]) {
                heights[at] = (byte) now;
                frames[at] = joined;
                changed[place] = true;
            }
        }

        private long bothFrames(long a, long b) {
            if (a == b) {
                return a;
            }
            long both = 0;
            for (int slot = 0; slot < 16; slot++) {
                both = with(both, slot, layout.classes.together(kindIn(a, slot), kindIn(b, slot)));
            }
            return both;
        }

        private long frameBehind() {
            int x = taken(0);
            long kinds = frame;
            for (int i = low; i < height; i++) {
                kinds = with(kinds, STACK + i, NO);
            }
            if (op == Code.LOCAL_SET) {
                return with(kinds, first, x);
            }
            if (op == Code.DOUBLE) {
                return with(with(kinds, STACK + low, x), STACK + low + 1, x);
            }
            if (op == Code.SWAP) {
                return with(with(kinds, STACK + low, taken(1)), STACK + low + 1, x);
            }
            return behind == low ? kinds : with(kinds, STACK + low, kindPut());
        }

        private int kindPut() {
            switch (op) {
                case Code.NULL_PUT:
                    return NULL;
                case Code.LOCAL_GET:
                    return kindIn(frame, first);
                case Code.NEW:
                case Code.CAST:
                    return REF + first;
                case Code.FIELD_GET:
                    return layout.classes.fieldType(first, second);
                case Code.ARRAY_NEW:
                    return ARRAY;
                case Code.CALL:
                    return layout.methods.returnedBy(first);
                case Code.SEND:
                    return layout.selectors.returnedBy(first);
                default:
                    return INT;
            }
        }

        /** Of what is taken from the STACK the KIND of the i-th, the lowest first; NO if there is none. */
        private int taken(int i) {
            return low + i < height ? kindIn(frame, STACK + low + i) : NO;
        }

        private boolean takesWhatIsFit(int m) {
            int x = taken(0);
            int y = taken(1);
            if (op == Code.LOCAL_GET) {
                return kindIn(frame, first) != NO;
            }
            if (op == Code.LOCAL_ADD) {
                return kindIn(frame, first) == INT;
            }
            if (op >= Code.LOCAL_SET && op <= Code.SWAP) {
                return x != NO && (op != Code.SWAP || y != NO);
            }
            if (op <= Code.LAST_JUMP_BY_INTS || op == Code.ARRAY_NEW || op == Code.PUT_OUT || op == Code.CHOOSE) {
                return areInts(0);
            }
            if (op <= Code.LAST_JUMP_BY_NULL) {
                return isArrayOrObject(x);
            }
            if (op <= Code.LAST_JUMP) {
                return isArrayOrObject(x) && isArrayOrObject(y)
                    && !(x == ARRAY && y >= ANY) && !(y == ARRAY && x >= ANY);
            }
            return fitsItsTypes(m, x, y);
        }

        private boolean fitsItsTypes(int m, int x, int y) {
            Classes classes = layout.classes;
            switch (op) {
                case Code.FIELD_GET:
                    return classes.isFit(x, REF + first);
                case Code.FIELD_SET:
                    return classes.isFit(x, REF + first) && classes.isFit(y, classes.fieldType(first, second));
                case Code.ARRAY_GET:
                case Code.ARRAY_SET:
                case Code.ARRAY_LENGTH:
                    return classes.isFit(x, ARRAY) && areInts(1);
                case Code.IS_OF:
                case Code.CAST:
                    return isArrayOrObject(x) && x != ARRAY;
                case Code.CALL:
                    return areParameters(layout.methods, 0);
                case Code.SEND:
                    return x >= REF && layout.methodFor(x - REF, first) != NONE && areParameters(layout.selectors, 1);
                case Code.RETURN:
                    return layout.methods.returnedBy(m) == 0;
                case Code.RETURN_IT:
                    return layout.methods.returnedBy(m) != 0 && classes.isFit(x, layout.methods.returnedBy(m));
                default:
                    return true;
            }
        }

        private boolean areInts(int from) {
            for (int i = from; low + i < height; i++) {
                if (taken(i) != INT) {
                    return false;
                }
            }
            return true;
        }

        private boolean areParameters(Signatures signatures, int from) {
            int parameters = signatures.parametersOf(first);
            for (int i = 0; i < parameters; i++) {
                if (!layout.classes.isFit(taken(from + i), signatures.parameter(first, i))) {
                    return false;
                }
            }
            return true;
        }

        private static boolean isArrayOrObject(int k) {
            return k != NO && k != INT;
        }

        // Thirteen KINDS need four bits, so those from ANY on are kept behind NULL.
        private static int kindIn(long kinds, int slot) {
            int packed = (int) (kinds >>> 4 * slot) & 15;
            return packed <= NULL ? packed : packed + ANY - NULL - 1;
        }

        private static long with(long kinds, int slot, int k) {
            long packed = k <= NULL ? k : k - ANY + NULL + 1;
            return kinds & ~(15L << 4 * slot) | packed << 4 * slot;
        }
    }
}
