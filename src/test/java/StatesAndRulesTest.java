/** Promises 1 to 9: a new object, and the calls that tell STATES, THE START, RULES and BAD ones. */
public final class StatesAndRulesTest extends Asking {
    private static final String NEW = "Promise 1: A new object";
    private static final String STATES = "Promise 2: states";
    private static final String START = "Promise 3: start";
    private static final String ALONE = "Promise 4: alone";
    private static final String PAIR = "Promise 5: pair";
    private static final String ALL = "Promise 6: all";
    private static final String NEED = "Promise 7: need";
    private static final String RULE = "Promise 8: rule";
    private static final String BAD_ONE = "Promise 9: bad";
    private static final int[] POWERS = {1, 10, 100, 1000, 10000, 100000};

    // ---- promise 1

    @Sentence(at = NEW, says = "Two STATES,")
    static void promise01_newObject_hasTwoStates() {
        CrowdLaws x = new CrowdLaws();
        due("total(0)", x.total(0), 2);
        due("at(1)", x.at(1), 0);
        due("at(2)", x.at(2), UNKNOWN);
        due("states(2)", x.states(2), 2);
    }

    @Sentence(at = NEW, says = "START 0,")
    static void promise01_newObject_startsIn0Alone() {
        CrowdLaws x = new CrowdLaws();
        due("total(4)", x.total(4), 1);
        due("reach(3)", x.reach(3), 1);
        due("start(2)", x.start(2), 1);
    }

    @Sentence(at = NEW, says = "nothing else;")
    static void promise01_newObject_hasNoRules() {
        CrowdLaws x = new CrowdLaws();
        due("total(1)", x.total(1), 0);
        due("rule(0, 0)", x.rule(0, 0), UNKNOWN);
        due("can(0)", x.can(0), UNKNOWN);
        due("step(0)", x.step(0), UNKNOWN);
        due("need(0, 0)", x.need(0, 0), UNKNOWN);
        due("the first one's number", x.alone(0, 1), 0);
    }

    @Sentence(at = NEW, says = "nothing else;")
    static void promise01_newObject_hasNoBadOnes() {
        CrowdLaws x = new CrowdLaws();
        due("total(2)", x.total(2), 0);
        due("isBad()", x.isBad(), 0);
        due("steps(8)", x.steps(8), NONE);
        due("run(8, 0, 0)", x.run(8, 0, 0), NONE);
        due("the first one", x.bad(1), 1);
    }

    @Sentence(at = NEW, says = "nothing else;")
    static void promise01_newObject_hasNoSearch() {
        CrowdLaws x = new CrowdLaws();
        due("doomed()", x.doomed(), STATE);
        due("bases()", x.bases(), STATE);
        due("base(0, 0)", x.base(0, 0), STATE);
        due("least()", x.least(), STATE);
        due("doomedOf(1)", x.doomedOf(1), STATE);
    }

    @Sentence(at = NEW, says = "nothing else;")
    static void promise01_newObject_hasNothingOfAnotherOne() {
        CrowdLaws other = full();
        due("the other one's rules", other.total(1), 12);
        CrowdLaws x = new CrowdLaws();
        for (int what = 0; what < 5; what++) {
            due("total(" + what + ")", x.total(what), new int[] {2, 0, 0, 0, 1}[what]);
        }
        x.states(1);
        due("the other one's states", other.total(0), 3);
    }

    @Sentence(at = NEW, says = "an empty CROWD at hand.")
    static void promise01_newObject_hasAnEmptyCrowdAtHand() {
        CrowdLaws x = new CrowdLaws();
        due("total(3)", x.total(3), 0);
        dueRow("at", hand(x), 0, 0);
    }

    // ---- promise 2

    @Sentence(at = STATES, says = "So many STATES;")
    static void promise02_states_fromOneToFive() {
        CrowdLaws x = new CrowdLaws();
        for (int s = 1; s <= 5; s++) {
            x.states(s);
            due("total(0) of " + s, x.total(0), s);
            due("the last state of " + s, x.put(s - 1, 1), 0);
            due("one more than " + s, x.put(s, 1), UNKNOWN);
        }
    }

    @Sentence(at = STATES, says = "no RULES,")
    static void promise02_states_rulesAreGone() {
        CrowdLaws x = full();
        x.states(3);
        due("total(1)", x.total(1), 0);
        due("rule(0, 0)", x.rule(0, 0), UNKNOWN);
        due("can(0)", x.can(0), UNKNOWN);
        x.put(0, 1);
        due("step(0)", x.step(0), UNKNOWN);
        due("reach(3)", x.reach(3), 1);
        for (int i = 0; i < 12; i++) {
            due("rule " + i + " anew", x.alone(0, 0), i);
        }
    }

    @Sentence(at = STATES, says = "no RULES,")
    static void promise02_states_needsAreGoneWithThem() {
        CrowdLaws x = of(3);
        x.alone(0, 1);
        x.need(0, 2);
        x.states(3);
        x.alone(0, 1);
        due("rule(0, 6)", x.rule(0, 6), NONE);
        x.put(0, 1);
        due("can(0)", x.can(0), 1);
    }

    @Sentence(at = STATES, says = "BAD ones;")
    static void promise02_states_badOnesAreGone() {
        CrowdLaws x = full();
        x.states(3);
        due("total(2)", x.total(2), 0);
        putAll(x, 9, 9, 9);
        due("isBad()", x.isBad(), 0);
        due("search()", x.search(), 0);
        due("bases()", x.bases(), 0);
        due("steps(8)", x.steps(8), NONE);
        for (int i = 1; i <= 6; i++) {
            due("bad one " + i + " anew", x.bad(1), i);
        }
    }

    @Sentence(at = STATES, says = "START 0 alone;")
    static void promise02_states_start0Alone() {
        CrowdLaws x = of(3);
        x.start(6);
        x.states(3);
        due("total(4)", x.total(4), 1);
        due("reach(3)", x.reach(3), 1);
        x.start(4);
        x.states(2);
        due("total(4), when its state is gone", x.total(4), 1);
    }

    @Sentence(at = STATES, says = "the CROWD at hand is empty:")
    static void promise02_states_theCrowdAtHandIsEmpty() {
        CrowdLaws x = of(5);
        putAll(x, 1, 2, 3, 4, 5);
        x.states(5);
        due("total(3)", x.total(3), 0);
        dueRow("at", hand(x), 0, 0, 0, 0, 0);
    }

    @Sentence(at = STATES, says = "the CROWD at hand is empty:")
    static void promise02_states_nothingIsLeftAboveFewerStates() {
        CrowdLaws x = of(5);
        putAll(x, 0, 0, 0, 0, 50);
        x.states(1);
        due("total(3) of one", x.total(3), 0);
        x.states(5);
        due("at(4) of five again", x.at(4), 0);
    }

    @Sentence(at = STATES, says = "how many there were.")
    static void promise02_states_howManyThereWere() {
        CrowdLaws x = new CrowdLaws();
        due("states(5)", x.states(5), 2);
        due("states(1)", x.states(1), 5);
        due("states(1) again", x.states(1), 1);
        due("states(4)", x.states(4), 1);
        due("states(6), refused", x.states(6), BAD);
        due("states(2)", x.states(2), 4);
    }

    @Sentence(at = STATES, says = "BAD.")
    static void promise02_states_zeroAreTooFew() {
        due("states(0)", new CrowdLaws().states(0), BAD);
        due("states(-1)", new CrowdLaws().states(-1), BAD);
    }

    @Sentence(at = STATES, says = "BAD.")
    static void promise02_states_sixAreTooMany() {
        due("states(6)", new CrowdLaws().states(6), BAD);
    }

    @Sentence(at = STATES, says = "BAD.")
    static void promise02_states_farOff() {
        for (int far : FAR) {
            due("states(" + far + ")", new CrowdLaws().states(far), BAD);
        }
    }

    @Sentence(at = STATES, says = "BAD.")
    static void promise02_states_refusedChangesNothing() {
        CrowdLaws x = rich();
        changesNothing(x, () -> {
            due("states(0)", x.states(0), BAD);
            due("states(6)", x.states(6), BAD);
        });
    }

    // ---- promise 3

    @Sentence(at = START, says = "THE START is a set of STATES:")
    static void promise03_start_eachStateAlone() {
        CrowdLaws x = of(5);
        x.bad(11111);
        for (int state = 0; state < 5; state++) {
            x.start(1 << state);
            due("total(4)", x.total(4), 1 << state);
            due("one crowd of 8 starts", x.reach(8), 1);
        }
    }

    @Sentence(at = START, says = "THE START is a set of STATES:")
    static void promise03_start_allStates() {
        int[] crowds = {1, 4, 10, 20, 35};
        for (int s = 1; s <= 5; s++) {
            CrowdLaws x = of(s);
            due("start of all of " + s, x.start((1 << s) - 1), 1);
            due("total(4)", x.total(4), (1 << s) - 1);
            due("all crowds of 3 start", x.reach(3), crowds[s - 1]);
        }
    }

    @Sentence(at = START, says = "THE START is a set of STATES:")
    static void promise03_start_countsAtOnce() {
        CrowdLaws x = chain();
        due("steps(2) from 0", x.steps(2), 4);
        x.start(2);
        due("reach(2) from 1", x.reach(2), 3);
        due("steps(2) from 1", x.steps(2), 2);
        due("run(2, 0, 1) from 1", x.run(2, 0, 1), 2);
        x.start(4);
        due("reach(2) from 2", x.reach(2), 1);
        due("steps(2) from 2", x.steps(2), 0);
    }

    @Sentence(at = START, says = "what it was.")
    static void promise03_start_whatItWas() {
        CrowdLaws x = of(3);
        due("start(7)", x.start(7), 1);
        due("start(4)", x.start(4), 7);
        due("start(4) again", x.start(4), 4);
        due("start(8), refused", x.start(8), BAD);
        due("start(1)", x.start(1), 4);
    }

    @Sentence(at = START, says = "BAD: it is empty,")
    static void promise03_start_empty() {
        for (int s = 1; s <= 5; s++) {
            due("start(0) of " + s, of(s).start(0), BAD);
        }
    }

    @Sentence(at = START, says = "or has others.")
    static void promise03_start_oneStateMoreThanThereAre() {
        for (int s = 1; s <= 5; s++) {
            due("the next state alone, of " + s, of(s).start(1 << s), BAD);
            due("the next state too, of " + s, of(s).start((2 << s) - 1), BAD);
        }
    }

    @Sentence(at = START, says = "or has others.")
    static void promise03_start_theHighestBits() {
        CrowdLaws x = of(5);
        for (int far : FAR) {
            due("start(" + far + ")", x.start(far), BAD);
        }
        due("all bits", x.start(-1), BAD);
        due("state 0 and the sign", x.start(Integer.MIN_VALUE + 1), BAD);
        due("state 0 and bit 30", x.start((1 << 30) + 1), BAD);
    }

    @Sentence(at = START, says = "or has others.")
    static void promise03_start_refusedChangesNothing() {
        CrowdLaws x = rich();
        changesNothing(x, () -> {
            due("start(0)", x.start(0), BAD);
            due("start(8)", x.start(8), BAD);
            due("start(-1)", x.start(-1), BAD);
        });
    }

    // ---- promise 4

    @Sentence(at = ALONE, says = "A RULE ALONE: its number.")
    static void promise04_alone_itsNumber() {
        CrowdLaws x = of(3);
        for (int i = 0; i < 9; i++) {
            due("alone(" + i / 3 + ", " + i % 3 + ")", x.alone(i / 3, i % 3), i);
        }
        due("total(1)", x.total(1), 9);
        for (int i = 0; i < 9; i++) {
            due("rule(" + i + ", 0)", x.rule(i, 0), 0);
            due("rule(" + i + ", 1)", x.rule(i, 1), i / 3);
            due("rule(" + i + ", 2)", x.rule(i, 2), i % 3);
        }
    }

    @Sentence(at = ALONE, says = "A RULE ALONE: its number.")
    static void promise04_alone_theSameOneTwiceIsTwo() {
        CrowdLaws x = of(2);
        due("alone(0, 1)", x.alone(0, 1), 0);
        due("alone(0, 1) again", x.alone(0, 1), 1);
        x.put(0, 2);
        due("both can then", x.step(0), 2);
    }

    @Sentence(at = ALONE, says = "A RULE ALONE: its number.")
    static void promise04_alone_countsAtOnce() {
        CrowdLaws x = of(2);
        x.bad(10);
        due("steps(1)", x.steps(1), NONE);
        x.alone(0, 1);
        due("steps(1) with the rule", x.steps(1), 1);
    }

    @Sentence(at = ALONE, says = "UNKNOWN;")
    static void promise04_alone_pIsNoState() {
        for (int s = 1; s <= 5; s++) {
            CrowdLaws x = of(s);
            due("p one too high", x.alone(s, 0), UNKNOWN);
            due("p -1", x.alone(-1, 0), UNKNOWN);
            due("p NONE", x.alone(NONE, 0), UNKNOWN);
            for (int far : FAR) {
                due("p " + far, x.alone(far, 0), UNKNOWN);
            }
        }
    }

    @Sentence(at = ALONE, says = "UNKNOWN;")
    static void promise04_alone_qIsNoState() {
        for (int s = 1; s <= 5; s++) {
            CrowdLaws x = of(s);
            due("q one too high", x.alone(0, s), UNKNOWN);
            due("q -1", x.alone(0, -1), UNKNOWN);
            due("q NONE", x.alone(0, NONE), UNKNOWN);
            for (int far : FAR) {
                due("q " + far, x.alone(0, far), UNKNOWN);
            }
        }
    }

    @Sentence(at = ALONE, says = "UNKNOWN;")
    static void promise04_alone_refusedChangesNothing() {
        CrowdLaws x = rich();
        changesNothing(x, () -> {
            due("alone(3, 0)", x.alone(3, 0), UNKNOWN);
            due("alone(0, 3)", x.alone(0, 3), UNKNOWN);
        });
        due("the next number", x.alone(0, 0), 3);
    }

    @Sentence(at = ALONE, says = "FULL: 12.")
    static void promise04_alone_theTwelfthIsTaken() {
        CrowdLaws x = of(3);
        for (int i = 0; i < 11; i++) {
            x.alone(0, 1);
        }
        due("a twelfth", x.alone(2, 1), 11);
        due("its p", x.rule(11, 1), 2);
        x.put(2, 1);
        due("it can", x.can(11), 1);
    }

    @Sentence(at = ALONE, says = "FULL: 12.")
    static void promise04_alone_aThirteenthIsFull() {
        CrowdLaws x = full();
        changesNothing(x, () -> due("a thirteenth", x.alone(0, 1), FULL));
        due("rule(12, 0)", x.rule(12, 0), UNKNOWN);
    }

    // ---- promise 5

    @Sentence(at = PAIR, says = "A RULE PAIR: its number.")
    static void promise05_pair_itsNumber() {
        CrowdLaws x = of(4);
        due("pair(0, 1, 2, 3)", x.pair(0, 1, 2, 3), 0);
        due("pair(3, 2, 1, 0)", x.pair(3, 2, 1, 0), 1);
        due("the same again", x.pair(3, 2, 1, 0), 2);
        due("pair(1, 1, 1, 1)", x.pair(1, 1, 1, 1), 3);
        int[][] want = {{0, 1, 2, 3}, {3, 2, 1, 0}, {3, 2, 1, 0}, {1, 1, 1, 1}};
        for (int i = 0; i < 4; i++) {
            due("rule(" + i + ", 0)", x.rule(i, 0), 1);
            for (int j = 0; j < 4; j++) {
                due("rule(" + i + ", " + (j + 1) + ")", x.rule(i, j + 1), want[i][j]);
            }
        }
        due("total(1)", x.total(1), 4);
    }

    @Sentence(at = PAIR, says = "A RULE PAIR: its number.")
    static void promise05_pair_countsAtOnce() {
        CrowdLaws x = of(2);
        x.bad(20);
        due("steps(2)", x.steps(2), NONE);
        x.pair(0, 1, 0, 1);
        due("steps(2) with the rule", x.steps(2), 1);
    }

    @Sentence(at = PAIR, says = "UNKNOWN;")
    static void promise05_pair_pIsNoState() {
        dueNoPair(0);
    }

    @Sentence(at = PAIR, says = "UNKNOWN;")
    static void promise05_pair_qIsNoState() {
        dueNoPair(1);
    }

    @Sentence(at = PAIR, says = "UNKNOWN;")
    static void promise05_pair_rIsNoState() {
        dueNoPair(2);
    }

    @Sentence(at = PAIR, says = "UNKNOWN;")
    static void promise05_pair_tIsNoState() {
        dueNoPair(3);
    }

    /** One of the four is no STATE, the others are. */
    private static void dueNoPair(int which) {
        for (int s = 1; s <= 5; s++) {
            CrowdLaws x = of(s);
            due("one too high, of " + s, pairWith(x, which, s), UNKNOWN);
            due("-1", pairWith(x, which, -1), UNKNOWN);
            due("NONE", pairWith(x, which, NONE), UNKNOWN);
            for (int far : FAR) {
                due("far off " + far, pairWith(x, which, far), UNKNOWN);
            }
        }
    }

    private static int pairWith(CrowdLaws x, int which, int state) {
        return x.pair(which == 0 ? state : 0, which == 1 ? state : 0, which == 2 ? state : 0, which == 3 ? state : 0);
    }

    @Sentence(at = PAIR, says = "UNKNOWN;")
    static void promise05_pair_refusedChangesNothing() {
        CrowdLaws x = rich();
        changesNothing(x, () -> {
            due("pair(3, 0, 0, 0)", x.pair(3, 0, 0, 0), UNKNOWN);
            due("pair(0, 0, 0, -1)", x.pair(0, 0, 0, -1), UNKNOWN);
        });
        due("the next number", x.pair(0, 0, 0, 0), 3);
    }

    @Sentence(at = PAIR, says = "FULL.")
    static void promise05_pair_theTwelfthIsTaken() {
        CrowdLaws x = of(3);
        for (int i = 0; i < 11; i++) {
            x.pair(0, 1, 0, 1);
        }
        due("a twelfth", x.pair(2, 1, 1, 0), 11);
        due("its r", x.rule(11, 3), 1);
        putAll(x, 0, 1, 1);
        due("it can", x.can(11), 1);
    }

    @Sentence(at = PAIR, says = "FULL.")
    static void promise05_pair_aThirteenthIsFull() {
        CrowdLaws x = full();
        changesNothing(x, () -> due("a thirteenth", x.pair(0, 1, 0, 1), FULL));
        due("rule(12, 0)", x.rule(12, 0), UNKNOWN);
    }

    // ---- promise 6

    @Sentence(at = ALL, says = "A RULE ALL: its number.")
    static void promise06_all_itsNumber() {
        CrowdLaws x = of(3);
        due("all(0, 1, 210)", x.all(0, 1, 210), 0);
        due("all(2, 0, 0)", x.all(2, 0, 0), 1);
        due("the same again", x.all(2, 0, 0), 2);
        due("all(1, 1, 222)", x.all(1, 1, 222), 3);
        int[][] want = {{0, 1, 210}, {2, 0, 0}, {2, 0, 0}, {1, 1, 222}};
        for (int i = 0; i < 4; i++) {
            due("rule(" + i + ", 0)", x.rule(i, 0), 2);
            due("rule(" + i + ", 1)", x.rule(i, 1), want[i][0]);
            due("rule(" + i + ", 2)", x.rule(i, 2), want[i][1]);
            due("rule(" + i + ", 5)", x.rule(i, 5), want[i][2]);
        }
        due("total(1)", x.total(1), 4);
    }

    @Sentence(at = ALL, says = "A RULE ALL: its number.")
    static void promise06_all_countsAtOnce() {
        CrowdLaws x = of(2);
        x.bad(30);
        due("steps(3)", x.steps(3), NONE);
        x.all(0, 1, 11);
        due("steps(3) with the rule", x.steps(3), 1);
    }

    @Sentence(at = ALL, says = "UNKNOWN: p, q;")
    static void promise06_all_pIsNoState() {
        for (int s = 1; s <= 5; s++) {
            CrowdLaws x = of(s);
            due("p one too high", x.all(s, 0, 0), UNKNOWN);
            due("p -1", x.all(-1, 0, 0), UNKNOWN);
            due("p NONE", x.all(NONE, 0, 0), UNKNOWN);
            for (int far : FAR) {
                due("p " + far, x.all(far, 0, 0), UNKNOWN);
            }
        }
    }

    @Sentence(at = ALL, says = "UNKNOWN: p, q;")
    static void promise06_all_qIsNoState() {
        for (int s = 1; s <= 5; s++) {
            CrowdLaws x = of(s);
            due("q one too high", x.all(0, s, 0), UNKNOWN);
            due("q -1", x.all(0, -1, 0), UNKNOWN);
            due("q NONE", x.all(0, NONE, 0), UNKNOWN);
            for (int far : FAR) {
                due("q " + far, x.all(0, far, 0), UNKNOWN);
            }
        }
    }

    @Sentence(at = ALL, says = "BAD: map has more digits than there are STATES,")
    static void promise06_all_asManyDigitsAsStates() {
        int[] highest = {0, 11, 222, 3333, 44444};
        for (int s = 1; s <= 5; s++) {
            CrowdLaws x = of(s);
            due("the highest map of " + s, x.all(0, 0, highest[s - 1]), 0);
            due("rule(0, 5)", x.rule(0, 5), highest[s - 1]);
        }
    }

    @Sentence(at = ALL, says = "BAD: map has more digits than there are STATES,")
    static void promise06_all_fewerDigitsThanStates() {
        for (int s = 1; s <= 5; s++) {
            CrowdLaws x = of(s);
            due("map 0 of " + s, x.all(0, 0, 0), 0);
            due("map 1 of " + s, x.all(0, 0, 1), s == 1 ? BAD : 1);
        }
    }

    @Sentence(at = ALL, says = "BAD: map has more digits than there are STATES,")
    static void promise06_all_oneDigitMoreThanStates() {
        for (int s = 1; s <= 5; s++) {
            CrowdLaws x = of(s);
            due("one digit more, lowest, of " + s, x.all(0, 0, POWERS[s]), BAD);
            due("one digit more, all 1, of " + s, x.all(0, 0, POWERS[s] / 9 * 10 + 1), BAD);
        }
        due("ten digits", of(5).all(0, 0, 1000000000), BAD);
        due("the highest int", of(5).all(0, 0, Integer.MAX_VALUE), BAD);
    }

    @Sentence(at = ALL, says = "BAD: map has more digits than there are STATES,")
    static void promise06_all_aMapBelowZero() {
        CrowdLaws x = of(3);
        due("map -1", x.all(0, 1, -1), BAD);
        due("map -10", x.all(0, 1, -10), BAD);
        due("map -210", x.all(0, 1, -210), BAD);
        due("map NONE", x.all(0, 1, NONE), BAD);
        due("the lowest int", x.all(0, 1, Integer.MIN_VALUE), BAD);
    }

    @Sentence(at = ALL, says = "or one that is no STATE;")
    static void promise06_all_aDigitThatIsNoState() {
        for (int s = 1; s <= 5; s++) {
            CrowdLaws x = of(s);
            for (int place = 0; place < s; place++) {
                due("digit " + s + " at " + place, x.all(0, 0, s * POWERS[place]), BAD);
                due("digit 9 at " + place, x.all(0, 0, 9 * POWERS[place]), BAD);
                due("digit " + (s - 1) + " at " + place, x.all(0, 0, (s - 1) * POWERS[place]), place);
            }
        }
    }

    @Sentence(at = ALL, says = "or one that is no STATE;")
    static void promise06_all_refusedChangesNothing() {
        CrowdLaws x = rich();
        changesNothing(x, () -> {
            due("all(3, 0, 0)", x.all(3, 0, 0), UNKNOWN);
            due("all(0, 3, 0)", x.all(0, 3, 0), UNKNOWN);
            due("all(0, 1, 1000)", x.all(0, 1, 1000), BAD);
            due("all(0, 1, 300)", x.all(0, 1, 300), BAD);
        });
        due("the next number", x.all(0, 0, 0), 3);
    }

    @Sentence(at = ALL, says = "FULL.")
    static void promise06_all_theTwelfthIsTaken() {
        CrowdLaws x = of(3);
        for (int i = 0; i < 11; i++) {
            x.all(0, 1, 0);
        }
        due("a twelfth", x.all(2, 1, 21), 11);
        due("its map", x.rule(11, 5), 21);
        x.put(2, 1);
        due("it can", x.can(11), 1);
    }

    @Sentence(at = ALL, says = "FULL.")
    static void promise06_all_aThirteenthIsFull() {
        CrowdLaws x = full();
        changesNothing(x, () -> due("a thirteenth", x.all(0, 1, 210), FULL));
        due("rule(12, 0)", x.rule(12, 0), UNKNOWN);
    }

    // ---- promise 7

    @Sentence(at = NEED, says = "A RULE NEEDS a STATE")
    static void promise07_need_eachKindOfRuleMay() {
        CrowdLaws x = of(3);
        x.alone(0, 1);
        x.pair(0, 1, 0, 1);
        x.all(0, 1, 210);
        putAll(x, 2, 0, 0);
        for (int rule = 0; rule < 3; rule++) {
            due("can(" + rule + ")", x.can(rule), 1);
            due("need(" + rule + ", 2)", x.need(rule, 2), NONE);
            due("rule(" + rule + ", 6)", x.rule(rule, 6), 2);
            due("can(" + rule + ") with the need", x.can(rule), 0);
        }
    }

    @Sentence(at = NEED, says = "A RULE NEEDS a STATE")
    static void promise07_need_theLastStateAndTheFirst() {
        for (int s = 1; s <= 5; s++) {
            CrowdLaws x = of(s);
            x.alone(0, 0);
            due("need(0, " + (s - 1) + ")", x.need(0, s - 1), NONE);
            due("rule(0, 6)", x.rule(0, 6), s - 1);
            due("need(0, 0)", x.need(0, 0), s - 1);
            due("rule(0, 6)", x.rule(0, 6), 0);
        }
    }

    @Sentence(at = NEED, says = "A RULE NEEDS a STATE")
    static void promise07_need_ofOneRuleIsNotOfAnother() {
        CrowdLaws x = of(3);
        x.alone(0, 1);
        x.alone(0, 1);
        x.need(0, 2);
        due("rule(1, 6)", x.rule(1, 6), NONE);
        x.put(0, 1);
        due("can(0)", x.can(0), 0);
        due("can(1)", x.can(1), 1);
    }

    @Sentence(at = NEED, says = "A RULE NEEDS a STATE")
    static void promise07_need_countsAtOnce() {
        CrowdLaws x = of(2);
        x.alone(0, 1);
        x.bad(10);
        due("steps(2)", x.steps(2), 1);
        due("reach(2)", x.reach(2), 3);
        x.need(0, 1);
        due("steps(2) with the need", x.steps(2), NONE);
        due("reach(2) with the need", x.reach(2), 1);
    }

    @Sentence(at = NEED, says = "(NONE: none):")
    static void promise07_need_noneTakesItAway() {
        CrowdLaws x = of(3);
        x.alone(0, 1);
        x.need(0, 2);
        due("need(0, NONE)", x.need(0, NONE), 2);
        due("rule(0, 6)", x.rule(0, 6), NONE);
        x.put(0, 1);
        due("can(0)", x.can(0), 1);
        due("need(0, NONE) again", x.need(0, NONE), NONE);
    }

    @Sentence(at = NEED, says = "which it NEEDED (NONE).")
    static void promise07_need_whichItNeeded() {
        CrowdLaws x = of(3);
        x.alone(0, 1);
        due("need(0, 2)", x.need(0, 2), NONE);
        due("need(0, 0)", x.need(0, 0), 2);
        due("need(0, 0) again", x.need(0, 0), 0);
        due("need(0, 3), refused", x.need(0, 3), UNKNOWN);
        due("need(0, 1)", x.need(0, 1), 0);
        due("need(0, NONE)", x.need(0, NONE), 1);
        due("need(0, 1)", x.need(0, 1), NONE);
    }

    @Sentence(at = NEED, says = "UNKNOWN: rule,")
    static void promise07_need_noSuchRule() {
        CrowdLaws x = of(3);
        due("need(0, 0), no rules", x.need(0, 0), UNKNOWN);
        x.alone(0, 1);
        x.alone(0, 1);
        due("need(2, 0)", x.need(2, 0), UNKNOWN);
        due("need(-1, 0)", x.need(-1, 0), UNKNOWN);
        due("need(2, NONE)", x.need(2, NONE), UNKNOWN);
        due("need(NONE, NONE)", x.need(NONE, NONE), UNKNOWN);
        for (int far : FAR) {
            due("need(" + far + ", 0)", x.need(far, 0), UNKNOWN);
        }
        due("need(12, 0) of twelve", full().need(12, 0), UNKNOWN);
    }

    @Sentence(at = NEED, says = "state.")
    static void promise07_need_noSuchState() {
        for (int s = 1; s <= 5; s++) {
            CrowdLaws x = of(s);
            x.alone(0, 0);
            due("one too high, of " + s, x.need(0, s), UNKNOWN);
            due("-1", x.need(0, -1), UNKNOWN);
            due("one above NONE", x.need(0, NONE + 1), UNKNOWN);
            due("one below NONE", x.need(0, NONE - 1), UNKNOWN);
            for (int far : FAR) {
                due("need(0, " + far + ")", x.need(0, far), UNKNOWN);
            }
            due("rule(0, 6)", x.rule(0, 6), NONE);
        }
    }

    @Sentence(at = NEED, says = "UNKNOWN: rule, state.")
    static void promise07_need_refusedChangesNothing() {
        CrowdLaws x = rich();
        changesNothing(x, () -> {
            due("need(3, 0)", x.need(3, 0), UNKNOWN);
            due("need(-1, NONE)", x.need(-1, NONE), UNKNOWN);
            due("need(1, 3)", x.need(1, 3), UNKNOWN);
            due("need(1, -1)", x.need(1, -1), UNKNOWN);
        });
    }

    // ---- promise 8

    @Sentence(at = RULE, says = "A RULE: 0 ALONE, 1 PAIR, 2 ALL (what = 0),")
    static void promise08_rule_itsKind() {
        CrowdLaws x = threeKinds();
        due("rule(0, 0)", x.rule(0, 0), 0);
        due("rule(1, 0)", x.rule(1, 0), 1);
        due("rule(2, 0)", x.rule(2, 0), 2);
    }

    @Sentence(at = RULE, says = "p (1), q (2),")
    static void promise08_rule_itsPAndQ() {
        CrowdLaws x = threeKinds();
        int[] p = {1, 0, 3};
        int[] q = {2, 1, 0};
        for (int i = 0; i < 3; i++) {
            due("rule(" + i + ", 1)", x.rule(i, 1), p[i]);
            due("rule(" + i + ", 2)", x.rule(i, 2), q[i]);
        }
    }

    @Sentence(at = RULE, says = "r (3), t (4; of PAIR,")
    static void promise08_rule_itsRAndT() {
        CrowdLaws x = threeKinds();
        due("rule(1, 3)", x.rule(1, 3), 2);
        due("rule(1, 4)", x.rule(1, 4), 3);
        x.pair(1, 2, 0, 0);
        due("r may be 0", x.rule(3, 3), 0);
        due("t may be 0", x.rule(3, 4), 0);
    }

    @Sentence(at = RULE, says = "else NONE),")
    static void promise08_rule_noROrTButOfPair() {
        CrowdLaws x = threeKinds();
        due("rule(0, 3)", x.rule(0, 3), NONE);
        due("rule(0, 4)", x.rule(0, 4), NONE);
        due("rule(2, 3)", x.rule(2, 3), NONE);
        due("rule(2, 4)", x.rule(2, 4), NONE);
        // A RULE of another kind stood at the number ahead.
        x.states(4);
        x.alone(0, 1);
        x.alone(0, 1);
        due("rule(1, 3) anew", x.rule(1, 3), NONE);
        due("rule(1, 4) anew", x.rule(1, 4), NONE);
    }

    @Sentence(at = RULE, says = "its MAP (5; of ALL),")
    static void promise08_rule_itsMap() {
        CrowdLaws x = threeKinds();
        due("rule(2, 5)", x.rule(2, 5), 120);
        x.all(0, 0, 0);
        x.all(0, 0, 3333);
        due("a map of 0 is told as 0", x.rule(3, 5), 0);
        due("a map of four digits", x.rule(4, 5), 3333);
    }

    @Sentence(at = RULE, says = "its MAP (5; of ALL),")
    static void promise08_rule_noMapButOfAll() {
        CrowdLaws x = threeKinds();
        due("rule(0, 5)", x.rule(0, 5), NONE);
        due("rule(1, 5)", x.rule(1, 5), NONE);
        x.states(4);
        x.pair(0, 1, 0, 1);
        x.pair(0, 1, 0, 1);
        x.alone(0, 1);
        due("rule(2, 5) anew", x.rule(2, 5), NONE);
    }

    @Sentence(at = RULE, says = "the STATE that it NEEDS (6).")
    static void promise08_rule_itsNeed() {
        CrowdLaws x = threeKinds();
        due("rule(0, 6), none", x.rule(0, 6), NONE);
        due("rule(1, 6)", x.rule(1, 6), 3);
        due("rule(2, 6), none", x.rule(2, 6), NONE);
        x.need(2, 0);
        due("rule(2, 6)", x.rule(2, 6), 0);
    }

    private static CrowdLaws threeKinds() {
        CrowdLaws x = of(4);
        x.alone(1, 2);
        x.pair(0, 1, 2, 3);
        x.all(3, 0, 120);
        x.need(1, 3);
        return x;
    }

    @Sentence(at = RULE, says = "UNKNOWN;")
    static void promise08_rule_noSuchRule() {
        due("rule(0, 0), no rules", of(3).rule(0, 0), UNKNOWN);
        CrowdLaws x = threeKinds();
        due("rule(3, 0)", x.rule(3, 0), UNKNOWN);
        due("rule(-1, 0)", x.rule(-1, 0), UNKNOWN);
        due("rule(NONE, 0)", x.rule(NONE, 0), UNKNOWN);
        for (int far : FAR) {
            due("rule(" + far + ", 0)", x.rule(far, 0), UNKNOWN);
        }
        CrowdLaws y = full();
        due("rule(11, 0) of twelve", y.rule(11, 0), 0);
        due("rule(12, 0) of twelve", y.rule(12, 0), UNKNOWN);
    }

    @Sentence(at = RULE, says = "BAD.")
    static void promise08_rule_noSuchWhat() {
        CrowdLaws x = threeKinds();
        for (int rule = 0; rule < 3; rule++) {
            due("rule(" + rule + ", 7)", x.rule(rule, 7), BAD);
            due("rule(" + rule + ", -1)", x.rule(rule, -1), BAD);
            due("rule(" + rule + ", NONE)", x.rule(rule, NONE), BAD);
            for (int far : FAR) {
                due("rule(" + rule + ", " + far + ")", x.rule(rule, far), BAD);
            }
        }
    }

    @Sentence(at = RULE, says = "UNKNOWN; BAD.")
    static void promise08_rule_askingAndRefusedChangesNothing() {
        CrowdLaws x = rich();
        changesNothing(x, () -> {
            due("rule(1, 4)", x.rule(1, 4), 2);
            due("rule(3, 0)", x.rule(3, 0), UNKNOWN);
            due("rule(0, 7)", x.rule(0, 7), BAD);
        });
    }

    // ---- promise 9

    @Sentence(at = BAD_ONE, says = "A BAD one, told by digits:")
    static void promise09_bad_toldByDigits() {
        CrowdLaws x = of(5);
        x.bad(54321);
        putAll(x, 1, 2, 3, 4, 5);
        due("just so many", x.isBad(), 1);
        for (int state = 0; state < 5; state++) {
            x.put(state, state);
            due("one fewer in " + state, x.isBad(), 0);
            x.put(state, state + 1);
        }
    }

    @Sentence(at = BAD_ONE, says = "A BAD one, told by digits:")
    static void promise09_bad_countsAtOnce() {
        CrowdLaws x = of(2);
        due("steps(3)", x.steps(3), NONE);
        x.bad(3);
        due("steps(3) with the bad one", x.steps(3), 0);
    }

    @Sentence(at = BAD_ONE, says = "how many there are.")
    static void promise09_bad_howManyThereAre() {
        CrowdLaws x = of(3);
        due("bad(999)", x.bad(999), 1);
        due("bad(1)", x.bad(1), 2);
        due("bad(0), refused", x.bad(0), BAD);
        due("bad(10)", x.bad(10), 3);
        due("total(2)", x.total(2), 3);
    }

    @Sentence(at = BAD_ONE, says = "how many there are.")
    static void promise09_bad_theSameOneTwiceIsTwo() {
        CrowdLaws x = of(3);
        due("bad(12)", x.bad(12), 1);
        due("bad(12) again", x.bad(12), 2);
        due("one that is at least it", x.bad(112), 3);
        due("total(2)", x.total(2), 3);
    }

    @Sentence(at = BAD_ONE, says = "BAD: none are in it,")
    static void promise09_bad_anEmptyOne() {
        for (int s = 1; s <= 5; s++) {
            CrowdLaws x = of(s);
            due("bad(0) of " + s, x.bad(0), BAD);
            due("bad(1) of " + s, x.bad(1), 1);
        }
    }

    @Sentence(at = BAD_ONE, says = "digits as of MAP;")
    static void promise09_bad_asManyDigitsAsStates() {
        for (int s = 1; s <= 5; s++) {
            CrowdLaws x = of(s);
            due("all 9 of " + s, x.bad(POWERS[s] - 1), 1);
            due("1 in the last state alone, of " + s, x.bad(POWERS[s - 1]), 2);
        }
    }

    @Sentence(at = BAD_ONE, says = "digits as of MAP;")
    static void promise09_bad_oneDigitMoreThanStates() {
        for (int s = 1; s <= 5; s++) {
            CrowdLaws x = of(s);
            due("one digit more, lowest, of " + s, x.bad(POWERS[s]), BAD);
            due("one digit more, of " + s, x.bad(POWERS[s] + 1), BAD);
        }
        due("ten digits", of(5).bad(1000000000), BAD);
        due("the highest int", of(5).bad(Integer.MAX_VALUE), BAD);
    }

    @Sentence(at = BAD_ONE, says = "digits as of MAP;")
    static void promise09_bad_belowZero() {
        CrowdLaws x = of(3);
        for (int crowd : new int[] {-1, -9, -10, -210, -1000, Integer.MIN_VALUE}) {
            due("bad(" + crowd + ")", x.bad(crowd), BAD);
        }
    }

    @Sentence(at = BAD_ONE, says = "digits as of MAP;")
    static void promise09_bad_refusedChangesNothing() {
        CrowdLaws x = rich();
        changesNothing(x, () -> {
            due("bad(0)", x.bad(0), BAD);
            due("bad(-1)", x.bad(-1), BAD);
            due("bad(1000)", x.bad(1000), BAD);
        });
    }

    @Sentence(at = BAD_ONE, says = "FULL: 6.")
    static void promise09_bad_theSixthIsTaken() {
        CrowdLaws x = of(2);
        for (int i = 1; i <= 5; i++) {
            x.bad(99);
        }
        due("a sixth", x.bad(2), 6);
        x.put(0, 2);
        due("it is told", x.isBad(), 1);
    }

    @Sentence(at = BAD_ONE, says = "FULL: 6.")
    static void promise09_bad_aSeventhIsFull() {
        CrowdLaws x = full();
        changesNothing(x, () -> due("a seventh", x.bad(1), FULL));
        due("total(2)", x.total(2), 6);
    }
}
