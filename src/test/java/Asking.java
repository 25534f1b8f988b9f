import java.util.ArrayList;
import java.util.List;

/** What the tests of single sentences share. The constants are written out, so that a wrong one is seen. */
abstract class Asking {
    static final int UNKNOWN = -1, BAD = -2, STATE = -3, FULL = -4, SPENT = -5, NONE = -9;
    /** No STATE, RULE, number or set at all, though some would be, if bits or the sign of them were lost. */
    static final int[] FAR = {Integer.MIN_VALUE, Integer.MIN_VALUE + 1, -65536, -256, -255, -100, -10, -2, -1,
        256, 257, 65536, 65537, 1 << 30, Integer.MAX_VALUE};

    private static int asked = 0;
    private static final List<String> faults = new ArrayList<>();

    static void begin() {
        asked = 0;
        faults.clear();
    }

    static List<String> faults() {
        return faults;
    }

    /** A test that asks nothing is none. */
    static boolean isAllAsDue() {
        return asked > 0 && faults.isEmpty();
    }

    static void due(String call, int got, int want) {
        asked++;
        if (got != want) {
            faults.add(call + " answered " + got + ", due is " + want);
        }
    }

    static void dueRow(String call, int[] got, int... want) {
        due(call + ": how many there are", got.length, want.length);
        for (int i = 0; i < Math.min(got.length, want.length); i++) {
            due(call + " [" + i + "]", got[i], want[i]);
        }
    }

    // ---- objects that many tests begin with

    static CrowdLaws of(int states) {
        CrowdLaws x = new CrowdLaws();
        x.states(states);
        return x;
    }

    /** Something of all, and a SEARCH that found something. */
    static CrowdLaws rich() {
        CrowdLaws x = of(3);
        x.start(3);
        x.alone(0, 1);
        x.pair(0, 1, 1, 2);
        x.all(1, 2, 10);
        x.need(0, 0);
        x.need(1, 0);
        x.bad(200);
        x.bad(31);
        putAll(x, 4, 1, 0);
        x.search();
        return x;
    }

    /** So many RULES and BAD ones as there may be. */
    static CrowdLaws full() {
        CrowdLaws x = rich();
        for (int i = 3; i < 12; i++) {
            x.alone(2, 2);
        }
        for (int i = 2; i < 6; i++) {
            x.bad(900);
        }
        x.search();
        return x;
    }

    /** A thing steps through five STATES: more than 100 least CROWDS. */
    static CrowdLaws spent() {
        CrowdLaws x = of(5);
        x.alone(0, 1);
        x.alone(1, 2);
        x.alone(2, 3);
        x.alone(3, 4);
        x.bad(90000);
        x.search();
        return x;
    }

    /** From 0 to 1 to 2; 2 in STATE 2 are BAD: six BASES in four ROUNDS. */
    static CrowdLaws chain() {
        CrowdLaws x = of(3);
        x.alone(0, 1);
        x.alone(1, 2);
        x.bad(200);
        return x;
    }

    // ---- rows

    static void putAll(CrowdLaws x, int... many) {
        for (int i = 0; i < many.length; i++) {
            x.put(i, many[i]);
        }
    }

    static int[] hand(CrowdLaws x) {
        int[] row = new int[x.total(0)];
        for (int i = 0; i < row.length; i++) {
            row[i] = x.at(i);
        }
        return row;
    }

    static int[] base(CrowdLaws x, int number) {
        int[] row = new int[x.total(0)];
        for (int i = 0; i < row.length; i++) {
            row[i] = x.base(number, i);
        }
        return row;
    }

    static int[] run(CrowdLaws x, int n, int number) {
        int[] row = new int[x.total(0)];
        for (int i = 0; i < row.length; i++) {
            row[i] = x.run(n, number, i);
        }
        return row;
    }

    /** All BASES, one by one, and that there are no more. */
    static void dueBases(String when, CrowdLaws x, int[]... want) {
        due(when + ": bases()", x.bases(), want.length);
        for (int i = 0; i < want.length; i++) {
            dueRow(when + ": base " + i, base(x, i), want[i]);
        }
    }

    /** THE RUN, CROWD by CROWD, and that there are no more. */
    static void dueRun(String when, CrowdLaws x, int n, int[]... want) {
        due(when + ": steps(" + n + ")", x.steps(n), want.length - 1);
        for (int i = 0; i < want.length; i++) {
            dueRow(when + ": crowd " + i, run(x, n, i), want[i]);
        }
        due(when + ": one more crowd", x.run(n, want.length, 0), NONE);
    }

    /** Whether a RULE can step from a CROWD, and where it leads. */
    static void dueStep(String when, CrowdLaws x, int rule, int[] from, int... to) {
        putAll(x, from);
        due(when + ": can(" + rule + ")", x.can(rule), 1);
        x.step(rule);
        dueRow(when + ": behind the step", hand(x), to);
    }

    static void dueNoStep(String when, CrowdLaws x, int rule, int... from) {
        putAll(x, from);
        due(when + ": can(" + rule + ")", x.can(rule), 0);
        due(when + ": step(" + rule + ")", x.step(rule), STATE);
        dueRow(when + ": behind no step", hand(x), from);
    }

    // ---- refusals

    /** All that can be told of an object without changing it, in less than 240 calls. */
    static List<Integer> told(CrowdLaws x) {
        List<Integer> all = new ArrayList<>();
        for (int i = 0; i < 5; i++) {
            all.add(x.total(i));
        }
        for (int i = 0; i < 5; i++) {
            all.add(x.at(i));
        }
        for (int i = 0; i < x.total(1); i++) {
            for (int j = 0; j < 7; j++) {
                all.add(x.rule(i, j));
            }
            all.add(x.can(i));
        }
        all.addAll(List.of(x.isBad(), x.doomed(), x.bases(), x.least()));
        for (int i = 0; i < Math.min(6, x.bases()); i++) {
            for (int j = 0; j < x.total(0); j++) {
                all.add(x.base(i, j));
            }
        }
        for (int n = 2; n < 5; n++) {
            all.addAll(List.of(x.reach(n), x.steps(n), x.doomedOf(n), x.run(n, 0, 0), x.run(n, 1, 1)));
        }
        return all;
    }

    /** That refusals leave all as it was; the calls in it may ask too what they answer. */
    static void changesNothing(CrowdLaws x, Runnable refusals) {
        List<Integer> before = told(x);
        refusals.run();
        List<Integer> behind = told(x);
        due("all that is told is as before the refusals", before.equals(behind) ? 1 : 0, 1);
    }
}
