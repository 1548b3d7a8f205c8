import java.util.TreeMap;

/** FILES made by chance: every answer of the class against that of the Reference. */
public final class ReferenceTests {
    private static final int FILES = 60000;

    private final int[] faults = new int[4];
    private int clashes;
    private Reference lastGood;

    private void one(long seed, KindJudge judge, byte[] file) {
        Reference due = new Reference(file);
        int loaded = Check.load(judge, file);
        faults[due.fault[0]]++;
        String what = "file " + seed;
        Check.due(what + " load", loaded, due.fault[0] == 0 ? due.methods.size() : Check.THROWN);
        Check.fault(what, judge, due.fault[0], due.fault[1], due.fault[2]);
        if (due.fault[0] == 0) {
            lastGood = due;
            answers(what, judge, due);
        } else if (lastGood != null && seed % 4 == 0) {
            answers(what + " fails, of the one ahead of it", judge, lastGood);
        }
        if (due.fault[0] == 3) {
            clashes += due.methods.get(due.fault[2]).states.get(due.fault[1]).stack == null ? 1 : 0;
        }
    }

    private static void answers(String what, KindJudge judge, Reference due) {
        int classes = due.supers.size();
        Check.due(what + " total 0", judge.total(0), due.methods.size());
        Check.due(what + " total 1", judge.total(1), classes);
        Check.due(what + " total 2", judge.total(2), due.selectors.size());
        for (int c = 0; c < classes; c++) {
            Check.due(what + " super of " + c, judge.type(c, 0), due.supers.get(c));
            Check.due(what + " fields of " + c, judge.type(c, 1), due.fields.get(c).size());
            for (int f = 0; f < 9; f++) {
                int type = f < due.fields.get(c).size() ? due.fields.get(c).get(f) : -1;
                Check.due(what + " field " + f + " of " + c, judge.type(c, 2 + f), type);
            }
            for (int s = 0; s < due.selectors.size(); s++) {
                Check.due(what + " method(" + c + ", " + s + ")", judge.method(c, s), due.table.get(c)[s]);
            }
        }
        for (int a = -1; a < 16 + classes + 2; a++) {
            for (int b = -1; b < 16 + classes + 2; b++) {
                pair(what, judge, due, a, b);
            }
        }
        for (int m = 0; m < due.methods.size(); m++) {
            method(what + " method " + m, judge, due, m);
        }
    }

    private static void pair(String what, KindJudge judge, Reference due, int a, int b) {
        boolean kinds = isKind(due, a) && isKind(due, b);
        Check.due(what + " meet(" + a + ", " + b + ")", judge.meet(a, b), kinds ? due.meet(a, b) : -1);
        boolean fits = kinds && a != 0 && b != 0 && b != 3;
        Check.due(what + " fits(" + a + ", " + b + ")", judge.fits(a, b), fits ? due.fit(a, b) ? 1 : 0 : -1);
    }

    private static boolean isKind(Reference due, int k) {
        return k >= 0 && k <= 3 || k >= 15 && k < 16 + due.supers.size();
    }

    private static void method(String what, KindJudge judge, Reference due, int m) {
        Reference.Method method = due.methods.get(m);
        TreeMap<Integer, Integer> ways = new TreeMap<>();
        int highest = 0;
        ways.put(0, 1);
        for (int place : method.states.keySet()) {
            for (int next : due.next(method, place)) {
                ways.merge(next, 1, Integer::sum);
            }
            int behind = method.states.get(place).stack.size() - due.takes(method, place) + due.putsCount(method, place);
            highest = Math.max(highest, behind);
        }
        Check.due(what + " count 0", judge.count(m, 0), method.states.size());
        Check.due(what + " count 1", judge.count(m, 1), method.begins.size() - method.states.size());
        Check.due(what + " count 2", judge.count(m, 2), highest);
        for (int place = -1; place <= method.code.length; place++) {
            String at = what + " place " + place;
            if (method.begins.contains(place)) {
                Check.due(at + " ways", judge.ways(m, place), ways.getOrDefault(place, 0));
                instruction(at, judge, due, m, place);
            } else {
                Check.due(at + " ways", judge.ways(m, place), -1);
                Check.due(at + " look", Check.look(judge, m, place, 0), Check.THROWN);
                Check.due(at + " kind", judge.kind(m, place, 0), -1);
            }
        }
    }

    private static void instruction(String at, KindJudge judge, Reference due, int m, int place) {
        Reference.Method method = due.methods.get(m);
        Reference.State state = method.states.get(place);
        int[] looks = {method.code[place], due.size(m, place), due.takes(method, place), due.putsCount(method, place),
            state == null ? 0 : 1, state == null ? 0 : state.stack.size()};
        for (int what = 0; what < looks.length; what++) {
            Check.due(at + " look " + what, Check.look(judge, m, place, what), looks[what]);
        }
        for (int i = -1; i < 9; i++) {
            boolean local = state != null && i >= 0 && i < state.locals.size();
            Check.due(at + " local " + i, judge.kind(m, place, i), local ? state.locals.get(i) : -1);
            boolean stack = state != null && i >= 0 && i < state.stack.size();
            Check.due(at + " stack " + i, judge.kind(m, place, 100 + i), stack ? state.stack.get(i) : -1);
        }
    }

    public static void main(String[] args) {
        ReferenceTests tests = new ReferenceTests();
        KindJudge judge = new KindJudge();
        for (int seed = 0; seed < FILES; seed++) {
            if (seed % 3 == 0) {
                judge = new KindJudge();
                tests.lastGood = null;
            }
            byte[] file = new FileGuesser(seed).file();
            if (file.length <= 1500) {
                tests.one(seed, judge, file);
            }
        }
        System.out.println("good " + tests.faults[0] + ", fault 1 " + tests.faults[1] + ", fault 2 " + tests.faults[2]
            + ", fault 3 " + tests.faults[3] + ", of them clashes " + tests.clashes);
        for (int n : tests.faults) {
            Check.due("enough of each fault", n > FILES / 200, true);
        }
        Check.end();
    }
}
