/** Each promise of the document by itself: ordinary calls, edges, wrong calls. */
public final class PromisesTest {
    private static final int UNKNOWN = -1, BAD = -2, STATE = -3, FULL = -4, SPENT = -5, NONE = -9;
    private static final int[] WILD = {Integer.MIN_VALUE, -1000000, -9, -1, Integer.MAX_VALUE, 1000000};

    private static int wrong = 0;
    private static int promise = 0;

    private static void due(String call, int got, int want) {
        if (got != want) {
            wrong++;
            System.out.println("promise " + promise + ": " + call + " answered " + got + ", due is " + want);
        }
    }

    private static void dueRow(String call, int[] got, int... want) {
        for (int i = 0; i < want.length; i++) {
            due(call + "[" + i + "]", got[i], want[i]);
        }
    }

    public static void main(String[] args) {
        newObject();
        states();
        start();
        alone();
        pair();
        all();
        need();
        rule();
        bad();
        put();
        at();
        can();
        step();
        isBad();
        doomed();
        search();
        searchGoesOn();
        whatMakesTheSearchNone();
        bases();
        base();
        least();
        reach();
        steps();
        run();
        doomedOf();
        total();
        manyCalls();
        if (wrong != 0) {
            System.exit(1);
        }
        System.out.println("promises: all as due");
    }

    private static CrowdLaws of(int states) {
        CrowdLaws x = new CrowdLaws();
        x.states(states);
        return x;
    }

    private static int[] hand(CrowdLaws x) {
        int[] row = new int[x.total(0)];
        for (int i = 0; i < row.length; i++) {
            row[i] = x.at(i);
        }
        return row;
    }

    private static int[] baseOf(CrowdLaws x, int number) {
        int[] row = new int[x.total(0)];
        for (int i = 0; i < row.length; i++) {
            row[i] = x.base(number, i);
        }
        return row;
    }

    private static int[] runOf(CrowdLaws x, int n, int number) {
        int[] row = new int[x.total(0)];
        for (int i = 0; i < row.length; i++) {
            row[i] = x.run(n, number, i);
        }
        return row;
    }

    private static void putAll(CrowdLaws x, int... many) {
        for (int i = 0; i < many.length; i++) {
            x.put(i, many[i]);
        }
    }

    private static void newObject() {
        promise = 1;
        CrowdLaws x = new CrowdLaws();
        due("total 0", x.total(0), 2);
        due("total 1", x.total(1), 0);
        due("total 2", x.total(2), 0);
        due("total 3", x.total(3), 0);
        due("total 4", x.total(4), 1);
        due("at 0", x.at(0), 0);
        due("at 1", x.at(1), 0);
        due("at 2", x.at(2), UNKNOWN);
        due("isBad", x.isBad(), 0);
        due("doomed", x.doomed(), STATE);
        due("bases", x.bases(), STATE);
        due("can 0", x.can(0), UNKNOWN);
        due("reach 8", x.reach(8), 1);
        due("steps 8", x.steps(8), NONE);
    }

    private static void states() {
        promise = 2;
        CrowdLaws x = new CrowdLaws();
        due("states 5", x.states(5), 2);
        due("states 1", x.states(1), 5);
        due("states 3", x.states(3), 1);
        x.start(6);
        x.alone(0, 1);
        x.bad(1);
        x.put(2, 7);
        x.search();
        for (int wild : WILD) {
            due("states wild", x.states(wild), BAD);
        }
        due("states 0", x.states(0), BAD);
        due("states 6", x.states(6), BAD);
        due("refused: states", x.total(0), 3);
        due("refused: rules", x.total(1), 1);
        due("refused: bad ones", x.total(2), 1);
        due("refused: at hand", x.total(3), 7);
        due("refused: start", x.total(4), 6);
        due("refused: search", x.bases(), 1);
        due("states 3 again", x.states(3), 3);
        due("no rules", x.total(1), 0);
        due("no bad ones", x.total(2), 0);
        due("an empty crowd", x.total(3), 0);
        due("start 0 alone", x.total(4), 1);
        due("no search", x.bases(), STATE);
        due("rule 0", x.rule(0, 0), UNKNOWN);
        x.put(2, 3);
        x.states(2);
        x.states(3);
        due("nothing is left above", x.at(2), 0);
        due("walks are new", x.reach(2), 1);
    }

    private static void start() {
        promise = 3;
        CrowdLaws x = of(3);
        due("start 7", x.start(7), 1);
        due("start 4", x.start(4), 7);
        due("start 0", x.start(0), BAD);
        due("start 8", x.start(8), BAD);
        due("start 9", x.start(9), BAD);
        for (int wild : WILD) {
            due("start wild", x.start(wild), BAD);
        }
        due("refused changes nothing", x.total(4), 4);
        due("start 2", x.start(2), 4);
        due("one crowd starts", x.reach(5), 1);
        x.start(6);
        due("six crowds start", x.reach(5), 6);
        x.start(7);
        due("all crowds start", x.reach(5), 21);
        CrowdLaws one = of(1);
        due("start 1 of 1", one.start(1), 1);
        due("start 2 of 1", one.start(2), BAD);
        CrowdLaws five = of(5);
        due("start 31", five.start(31), 1);
        due("start 32", five.start(32), BAD);
    }

    private static void alone() {
        promise = 4;
        CrowdLaws x = of(3);
        due("alone 0 2", x.alone(0, 2), 0);
        due("alone 1 1", x.alone(1, 1), 1);
        due("alone 3 0", x.alone(3, 0), UNKNOWN);
        due("alone 0 3", x.alone(0, 3), UNKNOWN);
        for (int wild : WILD) {
            due("alone wild 0", x.alone(wild, 0), UNKNOWN);
            due("alone 0 wild", x.alone(0, wild), UNKNOWN);
        }
        due("refused changes nothing", x.total(1), 2);
        for (int i = 2; i < 12; i++) {
            due("alone " + i, x.alone(2, 0), i);
        }
        due("a thirteenth", x.alone(0, 1), FULL);
        due("unknown ahead of full", x.alone(0, 3), UNKNOWN);
        due("still twelve", x.total(1), 12);
        due("the last one stands", x.rule(11, 1), 2);
    }

    private static void pair() {
        promise = 5;
        CrowdLaws x = of(3);
        due("pair 0 1 2 0", x.pair(0, 1, 2, 0), 0);
        due("pair 1 1 1 1", x.pair(1, 1, 1, 1), 1);
        due("pair 3 0 0 0", x.pair(3, 0, 0, 0), UNKNOWN);
        due("pair 0 3 0 0", x.pair(0, 3, 0, 0), UNKNOWN);
        due("pair 0 0 3 0", x.pair(0, 0, 3, 0), UNKNOWN);
        due("pair 0 0 0 3", x.pair(0, 0, 0, 3), UNKNOWN);
        for (int wild : WILD) {
            due("pair wild", x.pair(wild, 0, 0, 0), UNKNOWN);
            due("pair wild", x.pair(0, wild, 0, 0), UNKNOWN);
            due("pair wild", x.pair(0, 0, wild, 0), UNKNOWN);
            due("pair wild", x.pair(0, 0, 0, wild), UNKNOWN);
        }
        for (int i = 2; i < 12; i++) {
            due("pair " + i, x.pair(0, 0, 0, 0), i);
        }
        due("a thirteenth", x.pair(0, 1, 0, 1), FULL);
        due("unknown ahead of full", x.pair(0, 0, 0, 3), UNKNOWN);
        due("still twelve", x.total(1), 12);
    }

    private static void all() {
        promise = 6;
        CrowdLaws x = of(3);
        due("all 0 1 210", x.all(0, 1, 210), 0);
        due("all 0 1 0", x.all(0, 1, 0), 1);
        due("all 2 2 222", x.all(2, 2, 222), 2);
        due("all 3 0 0", x.all(3, 0, 0), UNKNOWN);
        due("all 0 3 0", x.all(0, 3, 0), UNKNOWN);
        due("unknown ahead of bad", x.all(0, 3, 3), UNKNOWN);
        due("too many digits", x.all(0, 1, 1000), BAD);
        due("no such state, lowest", x.all(0, 1, 3), BAD);
        due("no such state, middle", x.all(0, 1, 30), BAD);
        due("no such state, highest", x.all(0, 1, 300), BAD);
        for (int wild : WILD) {
            due("all wild", x.all(0, 1, wild), BAD);
            due("all wild", x.all(wild, 1, 0), UNKNOWN);
            due("all wild", x.all(0, wild, 0), UNKNOWN);
        }
        due("refused changes nothing", x.total(1), 3);
        for (int i = 3; i < 12; i++) {
            due("all " + i, x.all(0, 0, 12), i);
        }
        due("a thirteenth", x.all(0, 0, 12), FULL);
        due("bad ahead of full", x.all(0, 0, 13), BAD);
        due("unknown ahead of full", x.all(3, 0, 12), UNKNOWN);
        CrowdLaws one = of(1);
        due("all 0 0 0 of one", one.all(0, 0, 0), 0);
        due("all 0 0 10 of one", one.all(0, 0, 10), BAD);
        CrowdLaws five = of(5);
        due("all 4 4 44444", five.all(4, 4, 44444), 0);
        due("all 4 4 44445", five.all(4, 4, 44445), BAD);
        due("all 4 4 100000", five.all(4, 4, 100000), BAD);
    }

    private static void need() {
        promise = 7;
        CrowdLaws x = of(3);
        x.alone(0, 1);
        x.pair(0, 1, 1, 2);
        due("need 0 2", x.need(0, 2), NONE);
        due("need 0 1", x.need(0, 1), 2);
        due("need 0 none", x.need(0, NONE), 1);
        due("need 0 0", x.need(0, 0), NONE);
        due("need 1 0", x.need(1, 0), NONE);
        due("need 2 0", x.need(2, 0), UNKNOWN);
        due("need 0 3", x.need(0, 3), UNKNOWN);
        due("need 0 -1", x.need(0, -1), UNKNOWN);
        due("need -9 0", x.need(NONE, 0), UNKNOWN);
        for (int wild : WILD) {
            due("need wild", x.need(wild, 0), UNKNOWN);
            if (wild != NONE) {
                due("need wild", x.need(0, wild), UNKNOWN);
            }
        }
        due("refused changes nothing", x.rule(0, 6), 0);
        x.states(3);
        x.alone(0, 1);
        due("a new rule needs none", x.rule(0, 6), NONE);
    }

    private static void rule() {
        promise = 8;
        CrowdLaws x = of(4);
        x.alone(1, 2);
        x.pair(0, 1, 2, 3);
        x.all(3, 0, 120);
        x.need(1, 3);
        int[][] want = {{0, 1, 2, NONE, NONE, NONE, NONE}, {1, 0, 1, 2, 3, NONE, 3}, {2, 3, 0, NONE, NONE, 120, NONE}};
        for (int i = 0; i < 3; i++) {
            for (int j = 0; j < 7; j++) {
                due("rule " + i + " " + j, x.rule(i, j), want[i][j]);
            }
        }
        due("rule 3 0", x.rule(3, 0), UNKNOWN);
        due("unknown ahead of bad", x.rule(3, 7), UNKNOWN);
        due("rule 0 7", x.rule(0, 7), BAD);
        for (int wild : WILD) {
            due("rule wild", x.rule(wild, 0), UNKNOWN);
            due("rule wild", x.rule(0, wild), BAD);
        }
    }

    private static void bad() {
        promise = 9;
        CrowdLaws x = of(3);
        due("bad 0", x.bad(0), BAD);
        due("bad 1000", x.bad(1000), BAD);
        for (int wild : WILD) {
            due("bad wild", x.bad(wild), BAD);
        }
        due("bad 999", x.bad(999), 1);
        due("bad 1", x.bad(1), 2);
        due("the same again", x.bad(1), 3);
        due("bad 10", x.bad(10), 4);
        due("bad 100", x.bad(100), 5);
        due("bad 12", x.bad(12), 6);
        due("a seventh", x.bad(5), FULL);
        due("bad ahead of full", x.bad(0), BAD);
        due("six", x.total(2), 6);
        CrowdLaws one = of(1);
        due("bad 9 of one", one.bad(9), 1);
        due("bad 10 of one", one.bad(10), BAD);
        CrowdLaws five = of(5);
        due("bad 99999", five.bad(99999), 1);
        due("bad 100000", five.bad(100000), BAD);
    }

    private static void put() {
        promise = 10;
        CrowdLaws x = of(5);
        due("put 0 5", x.put(0, 5), 0);
        due("put 0 50", x.put(0, 50), 5);
        due("put 0 51", x.put(0, 51), BAD);
        due("put 0 -1", x.put(0, -1), BAD);
        due("put 5 0", x.put(5, 0), UNKNOWN);
        due("unknown ahead of bad", x.put(5, 51), UNKNOWN);
        for (int wild : WILD) {
            due("put wild", x.put(wild, 1), UNKNOWN);
            due("put wild", x.put(1, wild), BAD);
        }
        due("refused changes nothing", x.total(3), 50);
        for (int i = 1; i < 5; i++) {
            due("put 50", x.put(i, 50), 0);
        }
        due("250 in all", x.total(3), 250);
        x.alone(0, 1);
        x.step(0);
        due("250 stay", x.total(3), 250);
        due("put 0 50, 251", x.put(0, 50), BAD);
        due("put 0 49", x.put(0, 49), 49);
        due("put 1 50", x.put(1, 50), 51);
        due("put 0 50", x.put(0, 50), 49);
        due("put 0 0", x.put(0, 0), 50);
    }

    private static void at() {
        promise = 11;
        CrowdLaws x = of(3);
        putAll(x, 4, 0, 9);
        due("at 0", x.at(0), 4);
        due("at 1", x.at(1), 0);
        due("at 2", x.at(2), 9);
        due("at 3", x.at(3), UNKNOWN);
        due("at 4", x.at(4), UNKNOWN);
        for (int wild : WILD) {
            due("at wild", x.at(wild), UNKNOWN);
        }
    }

    private static void can() {
        promise = 12;
        CrowdLaws x = of(3);
        x.alone(0, 1);
        x.pair(0, 1, 0, 2);
        x.pair(0, 1, 1, 2);
        x.all(0, 1, 0);
        due("can 4", x.can(4), UNKNOWN);
        for (int wild : WILD) {
            due("can wild", x.can(wild), UNKNOWN);
        }
        int[][] crowds = {{0, 5, 5}, {1, 0, 0}, {2, 0, 0}, {1, 1, 0}, {2, 2, 2}};
        int[][] want = {{0, 0, 0, 0}, {1, 0, 0, 1}, {1, 1, 0, 1}, {1, 0, 1, 1}, {1, 1, 1, 1}};
        cans(x, crowds, want);
        for (int i = 0; i < 4; i++) {
            x.need(i, 0);
        }
        // The needed one is another one than those who go by the rule itself.
        cans(x, new int[][] {{1, 1, 1}, {2, 0, 0}, {2, 1, 0}, {3, 0, 0}, {3, 1, 0}},
                new int[][] {{0, 0, 0, 0}, {1, 0, 0, 1}, {1, 0, 1, 1}, {1, 1, 0, 1}, {1, 1, 1, 1}});
        for (int i = 0; i < 4; i++) {
            x.need(i, 1);
        }
        // Whom the map leads to 1 isn't there ahead of the step.
        cans(x, new int[][] {{3, 0, 3}, {1, 1, 0}, {2, 1, 0}, {1, 2, 0}},
                new int[][] {{0, 0, 0, 0}, {1, 0, 0, 1}, {1, 1, 0, 1}, {1, 0, 1, 1}});
    }

    private static void cans(CrowdLaws x, int[][] crowds, int[][] want) {
        for (int i = 0; i < crowds.length; i++) {
            putAll(x, crowds[i]);
            for (int j = 0; j < want[i].length; j++) {
                due("crowd " + i + " can " + j, x.can(j), want[i][j]);
            }
        }
    }

    private static void step() {
        promise = 13;
        CrowdLaws x = of(3);
        x.alone(0, 1);
        x.pair(1, 2, 0, 2);
        x.all(2, 0, 201);
        x.pair(0, 0, 1, 1);
        putAll(x, 3, 1, 0);
        due("step 0", x.step(0), 3);
        dueRow("behind alone", hand(x), 2, 2, 0);
        due("step 1", x.step(1), 4);
        dueRow("behind pair", hand(x), 1, 1, 2);
        // One of 2 goes to 0; the others: 0 to 1, 1 to 0, 2 to 2.
        due("step 2", x.step(2), 4);
        dueRow("behind all", hand(x), 2, 1, 1);
        due("step 3", x.step(3), 4);
        dueRow("behind one that changes nothing", hand(x), 2, 1, 1);
        putAll(x, 0, 3, 0);
        due("step 0 can't", x.step(0), STATE);
        due("step 1 can't", x.step(1), STATE);
        due("step 2 can't", x.step(2), STATE);
        dueRow("refused changes nothing", hand(x), 0, 3, 0);
        due("step 4", x.step(4), UNKNOWN);
        for (int wild : WILD) {
            due("step wild", x.step(wild), UNKNOWN);
        }
        putAll(x, 1, 0, 0);
        due("none can then", x.step(0), 0);
        // The needed one goes by the map too.
        CrowdLaws y = of(3);
        y.all(0, 0, 22);
        y.need(0, 1);
        putAll(y, 1, 1, 0);
        due("step that needs", y.step(0), 0);
        dueRow("the needed one went", hand(y), 1, 0, 1);
        putAll(y, 3, 4, 5);
        // Map 022: 0 and 1 go to 2, 2 goes to 0.
        due("step of many", y.step(0), 0);
        dueRow("many went", hand(y), 6, 0, 6);
    }

    private static void isBad() {
        promise = 14;
        CrowdLaws x = of(3);
        putAll(x, 9, 9, 9);
        due("none is told", x.isBad(), 0);
        x.bad(203);
        due("at least", x.isBad(), 1);
        putAll(x, 3, 0, 2);
        due("just so", x.isBad(), 1);
        putAll(x, 2, 50, 50);
        due("one too few in 0", x.isBad(), 0);
        putAll(x, 50, 50, 1);
        due("one too few in 2", x.isBad(), 0);
        x.bad(90);
        due("another one", x.isBad(), 1);
        putAll(x, 50, 8, 1);
        due("none of both", x.isBad(), 0);
    }

    private static void doomed() {
        promise = 15;
        CrowdLaws x = of(3);
        x.pair(0, 1, 0, 1);
        x.bad(20);
        due("no search", x.doomed(), STATE);
        x.search();
        putAll(x, 1, 0, 9);
        due("one", x.doomed(), 0);
        putAll(x, 2, 0, 0);
        due("two", x.doomed(), 1);
        putAll(x, 0, 2, 0);
        due("bad itself", x.doomed(), 1);
        putAll(x, 1, 1, 50);
        due("one and one", x.doomed(), 0);
        putAll(x, 2, 1, 0);
        due("more", x.doomed(), 1);
        CrowdLaws spent = spent();
        due("spent", spent.doomed(), SPENT);
        spent.alone(0, 0);
        due("no search again", spent.doomed(), STATE);
    }

    /** A thing steps through five states: more than 100 least crowds. */
    private static CrowdLaws spent() {
        CrowdLaws x = of(5);
        x.alone(0, 1);
        x.alone(1, 2);
        x.alone(2, 3);
        x.alone(3, 4);
        x.bad(90000);
        due("spent", x.search(), SPENT);
        return x;
    }

    private static CrowdLaws searched(int states, int crowd) {
        CrowdLaws x = of(states);
        x.alone(0, 1);
        x.alone(1, 2);
        x.bad(crowd);
        return x;
    }

    /** In 40 rounds from 440, in 41 from 350. */
    private static CrowdLaws longSearch(int crowd) {
        CrowdLaws x = of(3);
        x.all(0, 2, 20);
        x.alone(2, 1);
        x.bad(crowd);
        return x;
    }

    private static void search() {
        promise = 16;
        CrowdLaws x = of(2);
        due("nothing told", x.search(), 0);
        due("no bases", x.bases(), 0);
        x.bad(30);
        x.bad(20);
        x.bad(31);
        x.bad(20);
        due("no rules", x.search(), 0);
        due("one is least", x.bases(), 1);
        dueRow("the least", baseOf(x, 0), 0, 2);
        x.alone(0, 1);
        due("alone", x.search(), 2);
        due("alone, bases", x.bases(), 3);
        dueRow("base 1", baseOf(x, 1), 1, 1);
        x.need(0, 0);
        // One more in 0 must stay: 1 1 needs 2 1, and 2 1 needs 3 0, of which there is 2 already.
        due("with a need", x.search(), 2);
        dueRow("need base 1", baseOf(x, 1), 2, 1);
        dueRow("need base 2", baseOf(x, 2), 3, 0);
        x.need(0, 1);
        due("a need of 1", x.search(), 1);
        dueRow("need of 1", baseOf(x, 1), 1, 1);
        due("two bases", x.bases(), 2);
        x.bad(1);
        due("covers what comes", x.search(), 0);
        due("0 1 and 2 0", x.bases(), 2);
        dueRow("the fewer first", baseOf(x, 0), 1, 0);
        CrowdLaws merge = of(3);
        merge.all(2, 2, 0);
        merge.bad(2);
        // Two others from anywhere, and one in 2.
        due("merge", merge.search(), 1);
        due("merge, bases", merge.bases(), 6);
        dueRow("merge base 1", baseOf(merge, 1), 0, 0, 3);
        dueRow("merge base 2", baseOf(merge, 2), 0, 1, 2);
        dueRow("merge base 3", baseOf(merge, 3), 0, 2, 1);
        dueRow("merge base 4", baseOf(merge, 4), 1, 0, 2);
        dueRow("merge base 5", baseOf(merge, 5), 1, 1, 1);
        CrowdLaws pair = of(3);
        pair.pair(0, 2, 1, 2);
        pair.bad(100);
        // Who comes to the bad state may be one of the two.
        due("pair", pair.search(), 1);
        dueRow("pair base 1", baseOf(pair, 1), 1, 1, 0);
        CrowdLaws same = of(2);
        same.pair(0, 1, 0, 1);
        same.need(0, 0);
        same.bad(30);
        due("three of one state", same.search(), 2);
        dueRow("3 1", baseOf(same, 1), 3, 1);
        dueRow("5 0", baseOf(same, 2), 5, 0);
    }

    private static void searchGoesOn() {
        promise = 16;
        CrowdLaws forty = longSearch(440);
        due("forty rounds", forty.search(), 40);
        due("forty rounds, bases", forty.bases(), 41);
        due("once more", forty.search(), 40);
        CrowdLaws more = longSearch(350);
        due("forty-one rounds", more.search(), SPENT);
        due("its bases", more.bases(), SPENT);
        due("spent once more", more.search(), SPENT);
        CrowdLaws hundred = searched(3, 780);
        due("a hundred bases", hundred.search(), 22);
        due("a hundred", hundred.bases(), 100);
        CrowdLaws over = searched(4, 1540);
        over.alone(2, 3);
        due("a hundred and one", over.search(), SPENT);
        due("its least", over.least(), SPENT);
    }

    private static void whatMakesTheSearchNone() {
        promise = 16;
        CrowdLaws x = of(2);
        x.bad(20);
        x.search();
        x.alone(5, 5);
        x.pair(5, 5, 5, 5);
        x.all(0, 0, 9);
        x.need(0, 0);
        x.bad(0);
        x.states(9);
        x.start(2);
        x.put(0, 3);
        due("refusals, start and put leave it", x.bases(), 1);
        x.alone(0, 1);
        due("alone", x.bases(), STATE);
        x.search();
        x.step(0);
        due("step leaves it", x.bases(), 3);
        x.pair(0, 0, 0, 0);
        due("pair", x.bases(), STATE);
        x.search();
        x.all(0, 0, 10);
        due("all", x.bases(), STATE);
        x.search();
        x.need(0, 1);
        due("need", x.bases(), STATE);
        x.search();
        x.bad(90);
        due("bad", x.bases(), STATE);
        x.search();
        x.states(2);
        due("states", x.bases(), STATE);
    }

    private static void bases() {
        promise = 17;
        CrowdLaws x = searched(3, 200);
        due("no search", x.bases(), STATE);
        x.search();
        due("six", x.bases(), 6);
        due("spent", spent().bases(), SPENT);
        CrowdLaws none = new CrowdLaws();
        none.search();
        due("none", none.bases(), 0);
    }

    private static void base() {
        promise = 18;
        CrowdLaws x = searched(3, 200);
        due("no search", x.base(0, 0), STATE);
        due("no search, no such", x.base(-1, 9), STATE);
        x.search();
        int[][] want = {{0, 0, 2}, {0, 1, 1}, {0, 2, 0}, {1, 0, 1}, {1, 1, 0}, {2, 0, 0}};
        for (int i = 0; i < 6; i++) {
            dueRow("base " + i, baseOf(x, i), want[i]);
        }
        due("base 6", x.base(6, 0), UNKNOWN);
        due("base 0 3", x.base(0, 3), UNKNOWN);
        for (int wild : WILD) {
            due("base wild", x.base(wild, 0), UNKNOWN);
            due("base wild", x.base(0, wild), UNKNOWN);
        }
        due("spent", spent().base(0, 0), SPENT);
        due("spent ahead of unknown", spent().base(-1, -1), SPENT);
        CrowdLaws many = of(2);
        many.bad(3);
        many.bad(20);
        many.bad(11);
        many.search();
        dueRow("by all together", baseOf(many, 0), 0, 2);
        dueRow("then by state 0", baseOf(many, 1), 1, 1);
        dueRow("the most last", baseOf(many, 2), 3, 0);
    }

    private static void least() {
        promise = 19;
        CrowdLaws x = of(3);
        x.pair(0, 1, 0, 0);
        x.bad(20);
        due("no search", x.least(), STATE);
        x.search();
        due("three are enough", x.least(), 3);
        x.start(2);
        due("they start there", x.least(), 2);
        x.start(4);
        due("none ever", x.least(), NONE);
        x.start(5);
        due("from 0 and 2", x.least(), 3);
        x.start(7);
        due("from all", x.least(), 2);
        due("spent", spent().least(), SPENT);
        // No more than 9 are told, and 8 gone through, but there is no limit here.
        CrowdLaws far = of(2);
        far.pair(0, 1, 0, 0);
        far.bad(90);
        far.search();
        due("ten", far.least(), 10);
        due("not by eight", far.steps(8), NONE);
    }

    private static void reach() {
        promise = 20;
        CrowdLaws x = of(3);
        x.alone(0, 1);
        for (int n = 1; n <= 8; n++) {
            due("reach " + n, x.reach(n), n + 1);
        }
        due("reach 0", x.reach(0), BAD);
        due("reach 9", x.reach(9), BAD);
        for (int wild : WILD) {
            due("reach wild", x.reach(wild), BAD);
        }
        x.alone(1, 2);
        due("reach 8, three states", x.reach(8), 45);
        x.need(1, 2);
        due("reach 8, none in 2", x.reach(8), 9);
        x.start(4);
        due("reach 8 from 2", x.reach(8), 1);
        x.start(6);
        due("reach 8 from 1 and 2", x.reach(8), 9);
        CrowdLaws five = of(5);
        five.start(31);
        due("all of 8 in five", five.reach(8), 495);
        CrowdLaws one = of(1);
        one.alone(0, 0);
        due("one state", one.reach(8), 1);
        CrowdLaws turn = of(3);
        turn.all(0, 1, 21);
        // 4 0 0 -> 0 4 0 -> no more in 0.
        due("all at once", turn.reach(4), 2);
    }

    private static void steps() {
        promise = 21;
        CrowdLaws x = of(3);
        x.alone(0, 1);
        x.alone(1, 2);
        x.bad(300);
        due("two are too few", x.steps(2), NONE);
        due("three", x.steps(3), 6);
        due("eight", x.steps(8), 6);
        x.start(6);
        due("from 1 and 2 they may be there", x.steps(3), 0);
        x.start(3);
        due("from 0 and 1", x.steps(3), 3);
        x.pair(1, 2, 1, 2);
        due("two at once", x.steps(3), 2);
        due("steps 0", x.steps(0), BAD);
        due("steps 9", x.steps(9), BAD);
        for (int wild : WILD) {
            due("steps wild", x.steps(wild), BAD);
        }
        x.bad(10);
        due("a bad one more", x.steps(3), 0);
    }

    private static void run() {
        promise = 22;
        CrowdLaws x = of(3);
        x.alone(0, 2);
        x.alone(0, 1);
        x.alone(2, 1);
        x.pair(1, 1, 2, 1);
        x.bad(20);
        due("steps", x.steps(2), 2);
        // By 0 1 1 or 1 1 0: what has fewer in 0 would come first, but that takes three steps.
        dueRow("crowd 0", runOf(x, 2, 0), 2, 0, 0);
        dueRow("crowd 1", runOf(x, 2, 1), 1, 1, 0);
        dueRow("crowd 2", runOf(x, 2, 2), 0, 2, 0);
        due("no crowd 3", x.run(2, 3, 0), NONE);
        due("no crowd -1", x.run(2, -1, 0), NONE);
        due("state 3", x.run(2, 0, 3), UNKNOWN);
        due("unknown ahead of none", x.run(2, 9, 3), UNKNOWN);
        due("bad ahead of unknown", x.run(9, 0, 3), BAD);
        due("run 0", x.run(0, 0, 0), BAD);
        for (int wild : WILD) {
            due("run wild", x.run(wild, 0, 0), BAD);
            due("run wild", x.run(2, wild, 0), NONE);
            due("run wild", x.run(2, 0, wild), UNKNOWN);
        }
        due("no run of one", x.run(1, 0, 0), NONE);
        firstRun();
        noRun();
    }

    private static void firstRun() {
        CrowdLaws y = of(4);
        y.start(3);
        y.alone(0, 2);
        y.alone(1, 2);
        y.pair(0, 3, 2, 3);
        y.pair(1, 3, 2, 3);
        y.bad(2000);
        // All ways take two steps; the first start crowd is the one with fewest in 0.
        due("steps", y.steps(3), 2);
        dueRow("crowd 0", runOf(y, 3, 0), 0, 3, 0, 0);
        dueRow("crowd 1", runOf(y, 3, 1), 0, 2, 1, 0);
        dueRow("crowd 2", runOf(y, 3, 2), 0, 1, 0, 2);
        CrowdLaws z = of(4);
        z.alone(0, 1);
        z.alone(0, 2);
        z.alone(2, 3);
        z.alone(1, 3);
        z.bad(1000);
        // 2 0 0 0 -> 1 0 1 0 comes ahead of 1 1 0 0, though its rule comes behind.
        dueRow("crowd 1", runOf(z, 2, 1), 1, 0, 1, 0);
        dueRow("crowd 2", runOf(z, 2, 2), 1, 0, 0, 1);
        CrowdLaws bad = of(3);
        bad.start(7);
        bad.bad(1);
        bad.bad(10);
        due("steps of a start crowd that is bad", bad.steps(2), 0);
        dueRow("the first bad one", runOf(bad, 2, 0), 0, 1, 1);
        due("no more", bad.run(2, 1, 0), NONE);
    }

    private static void noRun() {
        CrowdLaws x = of(2);
        x.bad(10);
        due("none comes", x.run(3, 0, 0), NONE);
        x.alone(0, 1);
        due("what is told counts at once", x.run(3, 1, 1), 1);
        x.need(0, 1);
        due("a need counts at once", x.run(3, 1, 1), NONE);
        x.start(2);
        due("a start counts at once", x.run(3, 0, 1), 3);
    }

    private static void doomedOf() {
        promise = 23;
        CrowdLaws x = of(3);
        x.alone(0, 1);
        x.alone(0, 2);
        x.bad(20);
        due("bad ahead of state", x.doomedOf(0), BAD);
        due("no search", x.doomedOf(3), STATE);
        x.search();
        // Of 3: all with two or more in 0 and 1: 300 210 201 120 111 021 030.
        due("of 3", x.doomedOf(3), 7);
        due("of 1", x.doomedOf(1), 0);
        due("of 2", x.doomedOf(2), 3);
        x.start(4);
        due("from 2", x.doomedOf(3), 0);
        due("doomedOf 0", x.doomedOf(0), BAD);
        due("doomedOf 9", x.doomedOf(9), BAD);
        for (int wild : WILD) {
            due("doomedOf wild", x.doomedOf(wild), BAD);
        }
        CrowdLaws spent = spent();
        due("spent", spent.doomedOf(3), SPENT);
        due("bad ahead of spent", spent.doomedOf(9), BAD);
    }

    private static void total() {
        promise = 24;
        CrowdLaws x = of(4);
        x.start(9);
        x.alone(0, 1);
        x.alone(0, 1);
        x.bad(1);
        putAll(x, 1, 2, 3, 4);
        due("states", x.total(0), 4);
        due("rules", x.total(1), 2);
        due("bad ones", x.total(2), 1);
        due("at hand", x.total(3), 10);
        due("start", x.total(4), 9);
        due("total 5", x.total(5), BAD);
        for (int wild : WILD) {
            due("total wild", x.total(wild), BAD);
        }
    }

    /** 512 of the dearest calls, one after another, all over each number. */
    private static void manyCalls() {
        promise = 20;
        CrowdLaws x = of(5);
        x.start(31);
        for (int i = 0; i < 6; i++) {
            x.all(i % 5, (i + 1) % 5, 12340);
            x.pair(i % 5, (i + 2) % 5, (i + 3) % 5, i % 5);
        }
        x.bad(70000);
        for (int i = 0; i < 490; i++) {
            x.need(0, i % 5);
            due("reach 8", x.reach(8), 495);
        }
    }
}
