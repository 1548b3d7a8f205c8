import java.util.NoSuchElementException;
import java.util.Random;

/** Calls with any arguments in any state: nothing is thrown but what the document names, where it names it. */
public final class WildTests {
    private static final int[] EDGES = {Integer.MIN_VALUE, Integer.MIN_VALUE + 99, -101, -100, -2, -1, 0, 1, 2, 3, 4, 5, 7, 8,
        9, 14, 15, 16, 17, 23, 24, 99, 100, 107, 108, 119, 120, 121, 255, 1500, Integer.MAX_VALUE - 100, Integer.MAX_VALUE};

    private final Random random = new Random(7);

    private int some() {
        return random.nextInt(3) == 0 ? random.nextInt() : EDGES[random.nextInt(EDGES.length)];
    }

    /** The class of what is thrown, or null. */
    private Class<?> call(KindJudge judge, int which) {
        try {
            switch (which) {
                case 0: judge.put(random.nextLong(), some()); break;
                case 1: judge.load(); break;
                case 2: judge.fault(some()); break;
                case 3: judge.kind(some(), some(), some()); break;
                case 4: judge.look(some(), some(), some()); break;
                case 5: judge.ways(some(), some()); break;
                case 6: judge.count(some(), some()); break;
                case 7: judge.fits(some(), some()); break;
                case 8: judge.meet(some(), some()); break;
                case 9: judge.method(some(), some()); break;
                case 10: judge.type(some(), some()); break;
                default: judge.total(some());
            }
            return null;
        } catch (RuntimeException e) {
            return e.getClass();
        }
    }

    private void calls(KindJudge judge, int n) {
        for (int i = 0; i < n; i++) {
            int which = random.nextInt(12);
            Class<?> thrown = call(judge, which);
            boolean named = thrown == null || which == 1 && thrown == IllegalArgumentException.class
                || which == 4 && thrown == NoSuchElementException.class;
            Check.due("call " + which + " threw " + thrown, named, true);
        }
    }

    /** Bytes that are small numbers for the most part, as those of a FILE are. */
    private byte[] bytes() {
        byte[] row = new byte[random.nextInt(random.nextInt(4) == 0 ? 1500 : 60)];
        int most = 1 + random.nextInt(80);
        for (int i = 0; i < row.length; i++) {
            row[i] = (byte) random.nextInt(most);
        }
        return row;
    }

    public static void main(String[] args) {
        WildTests tests = new WildTests();
        for (int run = 0; run < 3000; run++) {
            KindJudge judge = new KindJudge();
            tests.calls(judge, 10);
            Check.load(judge);
            byte[] file = run % 2 == 0 ? tests.bytes() : new FileGuesser(1000000 + run).file();
            if (file.length <= 1500) {
                Check.load(judge, file);
            }
            tests.calls(judge, 100);
        }
        Check.end();
    }
}
