/** A FILE that many tests ask about: four classes, two SELECTORS, six METHODS. */
final class Family {
    static final int METHODS = 6;
    static final int CLASSES = 4;
    static final int SELECTORS = 2;

    private Family() {
    }

    /** Class 0, class 1 below it, class 2 alone, class 3 below 1. */
    static byte[] bytes() {
        return new FileMaker()
            .type(-1, 1, 2)
            .type(0, 18)
            .type(-1)
            .type(1, 1, 17, 19, 2)
            .selector(1, 1)
            .selector(0)
            .method(FileMaker.types(), 0, 0, 0, 49)
            .method(FileMaker.types(16, 1), 1, 3, 2, 3, 1, 50)
            .method(FileMaker.types(17, 1), 1, 2, 2, 0, 1, 50)
            .method(FileMaker.types(18), 0, 1, 0, 49)
            // a loop that makes NULL, REF and ANY meet; behind it what is never come to
            .method(FileMaker.types(17, 18, 1), 0, 6, 3,
                2, 4, 3,            // 0: null, 1: to LOCAL 3
                3, 2, 22, 13,       // 3, 5: if LOCAL 2 is 0 on at 13
                3, 0, 4, 3,         // 7, 9: LOCAL 3 becomes REF 1
                21, 17,             // 11: on at 17
                3, 1, 4, 4,         // 13, 15: LOCAL 4 becomes REF 2
                20, 2, 255,         // 17: LOCAL 2 less 1
                3, 2, 23, 0,        // 20, 22: if not 0 on at 0
                49,                 // 24
                0, 1, 51, 49)       // 25, 27, 28: never come to
            .method(FileMaker.types(), 2, 1, 8, 0, 3, 41, 6, 6, 0, 0, 42, 5, 5, 50)
            .table(2, 0, 3, 0, 0, 4, 0, 0)
            .bytes();
    }

    static KindJudge loaded() {
        KindJudge judge = new KindJudge();
        Check.due("load of the family", Check.load(judge, bytes()), METHODS);
        return judge;
    }

    /**
     * What an object answers of its FILE, as one text to compare. These are more calls than the 512 that are promised:
     * the class does not count them.
     */
    static String answers(KindJudge judge) {
        StringBuilder all = new StringBuilder();
        for (int a = -1; a <= 24; a++) {
            for (int b = -1; b <= 24; b++) {
                all.append(judge.fits(a, b)).append(' ').append(judge.meet(a, b)).append(' ');
                all.append(judge.method(a, b)).append(' ').append(judge.type(a, b)).append(' ');
            }
        }
        for (int m = -1; m <= 16; m++) {
            all.append(judge.count(m, 0)).append(' ').append(judge.count(m, 1)).append(' ').append(judge.count(m, 2)).append(' ');
            for (int place = -1; place <= 120; place++) {
                all.append(judge.ways(m, place)).append(' ');
                for (int i = 0; i < 8; i++) {
                    all.append(judge.kind(m, place, i)).append(' ').append(judge.kind(m, place, 100 + i)).append(' ');
                    all.append(Check.look(judge, m, place, i)).append(' ');
                }
            }
        }
        for (int what = 0; what <= 2; what++) {
            all.append(judge.total(what)).append(' ');
        }
        return all.toString();
    }
}
