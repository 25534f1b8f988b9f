/** Promises 10 to 15: the CROWD at hand. */
public final class AtHandTest extends Asking {
    private static final String PUT = "Promise 10: put";
    private static final String AT = "Promise 11: at";
    private static final String CAN = "Promise 12: can";
    private static final String STEP = "Promise 13: step";
    private static final String IS_BAD = "Promise 14: isBad";
    private static final String DOOMED = "Promise 15: doomed";

    // ---- promise 10

    @Sentence(at = PUT, says = "So many (0 .. 50) are in a STATE:")
    static void promise10_put_intoEachState() {
        CrowdLaws x = of(5);
        for (int state = 0; state < 5; state++) {
            x.put(state, state + 1);
        }
        dueRow("at", hand(x), 1, 2, 3, 4, 5);
        x.put(2, 9);
        dueRow("one put anew", hand(x), 1, 2, 9, 4, 5);
        due("total(3)", x.total(3), 21);
    }

    @Sentence(at = PUT, says = "So many (0 .. 50) are in a STATE:")
    static void promise10_put_zeroIsTheFewest() {
        CrowdLaws x = of(2);
        due("put(0, 0)", x.put(0, 0), 0);
        x.put(0, 3);
        due("put(0, 0) behind 3", x.put(0, 0), 3);
        due("at(0)", x.at(0), 0);
        due("total(3)", x.total(3), 0);
    }

    @Sentence(at = PUT, says = "So many (0 .. 50) are in a STATE:")
    static void promise10_put_fiftyAreTheMost() {
        CrowdLaws x = of(2);
        due("put(1, 50)", x.put(1, 50), 0);
        due("at(1)", x.at(1), 50);
        due("put(1, 50) again", x.put(1, 50), 50);
    }

    @Sentence(at = PUT, says = "how many were.")
    static void promise10_put_howManyWere() {
        CrowdLaws x = of(2);
        due("put(0, 5)", x.put(0, 5), 0);
        due("put(0, 7)", x.put(0, 7), 5);
        due("put(0, 51), refused", x.put(0, 51), BAD);
        due("put(0, 7) again", x.put(0, 7), 7);
        due("put(1, 1)", x.put(1, 1), 0);
    }

    @Sentence(at = PUT, says = "how many were.")
    static void promise10_put_moreThan50CameByStepping() {
        CrowdLaws x = gathered(2);
        due("put(1, 0)", x.put(1, 0), 100);
        due("at(1)", x.at(1), 0);
    }

    /** So many times 50 in STATE 1 of two, and none in 0. */
    private static CrowdLaws gathered(int times) {
        CrowdLaws x = of(2);
        x.all(0, 1, 11);
        for (int i = 0; i < times; i++) {
            x.put(0, 50);
            x.step(0);
        }
        return x;
    }

    @Sentence(at = PUT, says = "UNKNOWN;")
    static void promise10_put_noSuchState() {
        for (int s = 1; s <= 5; s++) {
            CrowdLaws x = of(s);
            due("one too high, of " + s, x.put(s, 1), UNKNOWN);
            due("-1", x.put(-1, 1), UNKNOWN);
            due("NONE", x.put(NONE, 1), UNKNOWN);
            for (int far : FAR) {
                due("put(" + far + ", 1)", x.put(far, 1), UNKNOWN);
            }
        }
    }

    @Sentence(at = PUT, says = "BAD: n,")
    static void promise10_put_oneFewerThanZero() {
        due("put(0, -1)", of(2).put(0, -1), BAD);
        due("put(0, NONE)", of(2).put(0, NONE), BAD);
    }

    @Sentence(at = PUT, says = "BAD: n,")
    static void promise10_put_oneMoreThan50() {
        due("put(0, 51)", of(2).put(0, 51), BAD);
        // There would be no more than there are: it is BAD all the same.
        due("put(1, 51) for 100", gathered(2).put(1, 51), BAD);
    }

    @Sentence(at = PUT, says = "BAD: n,")
    static void promise10_put_farOff() {
        CrowdLaws x = of(2);
        putAll(x, 50, 50);
        for (int far : FAR) {
            due("put(0, " + far + ")", x.put(0, far), BAD);
        }
        due("so that the sum turns", x.put(0, Integer.MAX_VALUE - 49), BAD);
        dueRow("at", hand(x), 50, 50);
    }

    @Sentence(at = PUT, says = "or there would be more than 250 in all.")
    static void promise10_put_250InAll() {
        CrowdLaws x = of(5);
        putAll(x, 50, 50, 50, 50, 49);
        due("put(4, 50)", x.put(4, 50), 49);
        due("total(3)", x.total(3), 250);
        due("the same again", x.put(4, 50), 50);
    }

    @Sentence(at = PUT, says = "or there would be more than 250 in all.")
    static void promise10_put_251InAll() {
        CrowdLaws x = gathered(5);
        due("total(3)", x.total(3), 250);
        due("one more", x.put(0, 1), BAD);
        due("50 more", x.put(0, 50), BAD);
        due("none more", x.put(0, 0), 0);
        dueRow("at", hand(x), 0, 250);
    }

    @Sentence(at = PUT, says = "or there would be more than 250 in all.")
    static void promise10_put_whoWereInItDoNotCount() {
        CrowdLaws x = gathered(5);
        due("50 for 250", x.put(1, 50), 250);
        due("50 in 0", x.put(0, 50), 0);
        due("total(3)", x.total(3), 100);
    }

    @Sentence(at = PUT, says = "or there would be more than 250 in all.")
    static void promise10_put_justSoManyMoreAsAreLeft() {
        CrowdLaws x = gathered(4);
        x.put(0, 49);
        x.step(0);
        due("249", x.total(3), 249);
        due("two more", x.put(0, 2), BAD);
        due("one more", x.put(0, 1), 0);
        due("250", x.total(3), 250);
    }

    @Sentence(at = PUT, says = "UNKNOWN; BAD: n, or there would be more than 250 in all.")
    static void promise10_put_refusedChangesNothing() {
        CrowdLaws x = rich();
        changesNothing(x, () -> {
            due("put(3, 1)", x.put(3, 1), UNKNOWN);
            due("put(0, -1)", x.put(0, -1), BAD);
            due("put(0, 51)", x.put(0, 51), BAD);
        });
        CrowdLaws y = gathered(5);
        changesNothing(y, () -> due("put(0, 1) behind 250", y.put(0, 1), BAD));
    }

    // ---- promise 11

    @Sentence(at = AT, says = "How many are in a STATE.")
    static void promise11_at_howManyAreThere() {
        CrowdLaws x = of(5);
        dueRow("none at first", hand(x), 0, 0, 0, 0, 0);
        putAll(x, 4, 0, 50, 1, 9);
        dueRow("as put", hand(x), 4, 0, 50, 1, 9);
        x.alone(2, 1);
        x.step(0);
        dueRow("as stepped", hand(x), 4, 1, 49, 1, 9);
    }

    @Sentence(at = AT, says = "UNKNOWN.")
    static void promise11_at_noSuchState() {
        for (int s = 1; s <= 5; s++) {
            CrowdLaws x = of(s);
            due("one too high, of " + s, x.at(s), UNKNOWN);
            due("-1", x.at(-1), UNKNOWN);
            due("NONE", x.at(NONE), UNKNOWN);
            for (int far : FAR) {
                due("at(" + far + ")", x.at(far), UNKNOWN);
            }
        }
    }

    // ---- promise 12

    @Sentence(at = CAN, says = "Whether a RULE can step: 1, 0.")
    static void promise12_can_byWhoIsThere() {
        CrowdLaws x = kinds();
        dueCan(x, new int[] {0, 5, 5}, 0, 0, 0, 0);
        dueCan(x, new int[] {1, 0, 0}, 1, 0, 0, 1);
        dueCan(x, new int[] {2, 0, 0}, 1, 1, 0, 1);
        dueCan(x, new int[] {1, 1, 0}, 1, 0, 1, 1);
        dueCan(x, new int[] {2, 2, 2}, 1, 1, 1, 1);
    }

    @Sentence(at = CAN, says = "Whether a RULE can step: 1, 0.")
    static void promise12_can_notAnEmptyCrowd() {
        dueCan(kinds(), new int[] {0, 0, 0}, 0, 0, 0, 0);
    }

    @Sentence(at = CAN, says = "Whether a RULE can step: 1, 0.")
    static void promise12_can_byWhatItNeeds() {
        CrowdLaws x = kinds();
        for (int rule = 0; rule < 4; rule++) {
            x.need(rule, 0);
        }
        dueCan(x, new int[] {1, 1, 1}, 0, 0, 0, 0);
        dueCan(x, new int[] {2, 0, 0}, 1, 0, 0, 1);
        dueCan(x, new int[] {2, 1, 0}, 1, 0, 1, 1);
        dueCan(x, new int[] {3, 0, 0}, 1, 1, 0, 1);
        dueCan(x, new int[] {3, 1, 0}, 1, 1, 1, 1);
        for (int rule = 0; rule < 4; rule++) {
            x.need(rule, 1);
        }
        dueCan(x, new int[] {3, 0, 3}, 0, 0, 0, 0);
        dueCan(x, new int[] {1, 1, 0}, 1, 0, 0, 1);
        dueCan(x, new int[] {2, 1, 0}, 1, 1, 0, 1);
        dueCan(x, new int[] {1, 2, 0}, 1, 0, 1, 1);
    }

    @Sentence(at = CAN, says = "Whether a RULE can step: 1, 0.")
    static void promise12_can_askingDoesNotStep() {
        CrowdLaws x = rich();
        changesNothing(x, () -> due("can(0)", x.can(0), 1));
    }

    private static CrowdLaws kinds() {
        CrowdLaws x = of(3);
        x.alone(0, 1);
        x.pair(0, 1, 0, 2);
        x.pair(0, 1, 1, 2);
        x.all(0, 1, 0);
        return x;
    }

    private static void dueCan(CrowdLaws x, int[] crowd, int... want) {
        putAll(x, crowd);
        for (int rule = 0; rule < want.length; rule++) {
            due(crowd[0] + " " + crowd[1] + " " + crowd[2] + ": can(" + rule + ")", x.can(rule), want[rule]);
        }
    }

    @Sentence(at = CAN, says = "UNKNOWN.")
    static void promise12_can_noSuchRule() {
        due("can(0), no rules", of(3).can(0), UNKNOWN);
        CrowdLaws x = kinds();
        due("can(4)", x.can(4), UNKNOWN);
        due("can(-1)", x.can(-1), UNKNOWN);
        due("can(NONE)", x.can(NONE), UNKNOWN);
        for (int far : FAR) {
            due("can(" + far + ")", x.can(far), UNKNOWN);
        }
        CrowdLaws y = full();
        y.put(2, 1);
        due("can(11) of twelve", y.can(11), 1);
        due("can(12) of twelve", y.can(12), UNKNOWN);
    }

    // ---- promise 13

    @Sentence(at = STEP, says = "It steps:")
    static void promise13_step_itSteps() {
        CrowdLaws x = of(3);
        x.alone(0, 1);
        x.pair(1, 2, 0, 2);
        x.all(2, 0, 201);
        putAll(x, 3, 1, 0);
        x.step(0);
        dueRow("behind alone", hand(x), 2, 2, 0);
        x.step(1);
        dueRow("behind pair", hand(x), 1, 1, 2);
        // One of 2 goes to 0; the others: 0 to 1, 1 to 0, 2 to 2.
        x.step(2);
        dueRow("behind all", hand(x), 2, 1, 1);
        due("nobody came or went", x.total(3), 4);
    }

    @Sentence(at = STEP, says = "It steps:")
    static void promise13_step_ofAGreatCrowd() {
        CrowdLaws x = of(5);
        x.all(0, 1, 22222);
        putAll(x, 50, 50, 50, 50, 50);
        due("step(0)", x.step(0), 0);
        dueRow("at", hand(x), 0, 1, 249, 0, 0);
        due("total(3)", x.total(3), 250);
    }

    @Sentence(at = STEP, says = "It steps:")
    static void promise13_step_ofOneAlone() {
        CrowdLaws x = of(1);
        x.alone(0, 0);
        x.all(0, 0, 0);
        x.put(0, 1);
        due("step(0)", x.step(0), 2);
        due("step(1)", x.step(1), 2);
        due("at(0)", x.at(0), 1);
    }

    @Sentence(at = STEP, says = "how many RULES can then.")
    static void promise13_step_howManyCanBehindIt() {
        CrowdLaws x = of(3);
        x.alone(0, 1);
        x.alone(1, 2);
        x.alone(2, 2);
        x.pair(0, 0, 1, 1);
        putAll(x, 2, 0, 0);
        // Ahead of it rule 0 alone could; behind it rules 0, 1 and 3.
        due("step(0)", x.step(0), 3);
        due("step(0) again", x.step(0), 1);
        due("step(1)", x.step(1), 2);
    }

    @Sentence(at = STEP, says = "how many RULES can then.")
    static void promise13_step_noneCanBehindIt() {
        CrowdLaws x = of(2);
        x.alone(0, 1);
        x.pair(0, 1, 0, 1);
        putAll(x, 2, 0);
        due("step(1)", x.step(1), 0);
    }

    @Sentence(at = STEP, says = "how many RULES can then.")
    static void promise13_step_allTwelveCanBehindIt() {
        CrowdLaws x = of(2);
        for (int i = 0; i < 12; i++) {
            x.alone(1, 1);
        }
        x.put(1, 1);
        due("step(11)", x.step(11), 12);
    }

    @Sentence(at = STEP, says = "UNKNOWN;")
    static void promise13_step_noSuchRule() {
        CrowdLaws x = full();
        putAll(x, 9, 9, 9);
        due("step(12) of twelve", x.step(12), UNKNOWN);
        due("step(-1)", x.step(-1), UNKNOWN);
        due("step(NONE)", x.step(NONE), UNKNOWN);
        for (int far : FAR) {
            due("step(" + far + ")", x.step(far), UNKNOWN);
        }
        dueRow("at", hand(x), 9, 9, 9);
        due("step(0), no rules", of(2).step(0), UNKNOWN);
    }

    @Sentence(at = STEP, says = "STATE: it can't.")
    static void promise13_step_itCannot() {
        CrowdLaws x = kinds();
        for (int rule = 0; rule < 4; rule++) {
            dueNoStep("rule " + rule, x, rule, 0, 5, 5);
        }
        dueNoStep("one of a pair", x, 1, 1, 5, 5);
        x.need(0, 2);
        dueNoStep("the needed one isn't there", x, 0, 5, 5, 0);
    }

    @Sentence(at = STEP, says = "STATE: it can't.")
    static void promise13_step_anEmptyCrowdCannot() {
        CrowdLaws x = kinds();
        for (int rule = 0; rule < 4; rule++) {
            due("step(" + rule + ")", x.step(rule), STATE);
        }
        due("total(3)", x.total(3), 0);
    }

    @Sentence(at = STEP, says = "UNKNOWN; STATE: it can't.")
    static void promise13_step_refusedChangesNothing() {
        CrowdLaws x = rich();
        putAll(x, 0, 0, 3);
        changesNothing(x, () -> {
            due("step(3)", x.step(3), UNKNOWN);
            due("step(0)", x.step(0), STATE);
            due("step(2)", x.step(2), STATE);
        });
    }

    // ---- promise 14

    @Sentence(at = IS_BAD, says = "Whether it is BAD: 1, 0.")
    static void promise14_isBad_justSoManyAndOneFewer() {
        CrowdLaws x = of(3);
        x.bad(203);
        putAll(x, 3, 0, 2);
        due("3 0 2", x.isBad(), 1);
        putAll(x, 2, 0, 2);
        due("2 0 2", x.isBad(), 0);
        putAll(x, 3, 0, 1);
        due("3 0 1", x.isBad(), 0);
    }

    @Sentence(at = IS_BAD, says = "Whether it is BAD: 1, 0.")
    static void promise14_isBad_anEmptyCrowdIsNot() {
        CrowdLaws x = of(2);
        due("none are told", x.isBad(), 0);
        x.bad(1);
        x.bad(10);
        due("one in any state is", x.isBad(), 0);
    }

    @Sentence(at = IS_BAD, says = "Whether it is BAD: 1, 0.")
    static void promise14_isBad_byTheFirstAndByTheSixth() {
        CrowdLaws x = of(5);
        for (int crowd : new int[] {2, 20, 200, 2000, 20000, 11111}) {
            x.bad(crowd);
        }
        putAll(x, 2, 0, 0, 0, 0);
        due("the first", x.isBad(), 1);
        putAll(x, 1, 1, 1, 1, 1);
        due("the sixth", x.isBad(), 1);
        putAll(x, 1, 1, 1, 1, 0);
        due("none", x.isBad(), 0);
    }

    @Sentence(at = IS_BAD, says = "Whether it is BAD: 1, 0.")
    static void promise14_isBad_doesNotAskForTheSearch() {
        CrowdLaws x = chain();
        putAll(x, 2, 0, 0);
        x.search();
        due("doomed, but not bad", x.isBad(), 0);
        CrowdLaws y = spent();
        y.put(4, 9);
        due("bad, though the search was spent", y.isBad(), 1);
    }

    // ---- promise 15

    @Sentence(at = DOOMED, says = "Whether it is DOOMED: 1, 0.")
    static void promise15_doomed_atLeastABaseAndOneFewer() {
        CrowdLaws x = of(3);
        x.pair(0, 1, 0, 1);
        x.bad(20);
        x.search();
        putAll(x, 2, 0, 0);
        due("2 0 0", x.doomed(), 1);
        putAll(x, 1, 0, 50);
        due("1 0 50", x.doomed(), 0);
        putAll(x, 1, 1, 50);
        due("1 1 50", x.doomed(), 0);
        putAll(x, 0, 2, 0);
        due("bad itself", x.doomed(), 1);
    }

    @Sentence(at = DOOMED, says = "Whether it is DOOMED: 1, 0.")
    static void promise15_doomed_anEmptyCrowdIsNot() {
        CrowdLaws x = of(2);
        x.bad(1);
        x.bad(10);
        x.search();
        due("doomed()", x.doomed(), 0);
    }

    @Sentence(at = DOOMED, says = "Whether it is DOOMED: 1, 0.")
    static void promise15_doomed_byASearchThatBroughtNothing() {
        CrowdLaws x = of(2);
        x.bad(20);
        due("search()", x.search(), 0);
        putAll(x, 0, 2);
        due("bad itself", x.doomed(), 1);
        putAll(x, 50, 1);
        due("one fewer", x.doomed(), 0);
    }

    @Sentence(at = DOOMED, says = "Whether it is DOOMED: 1, 0.")
    static void promise15_doomed_noneIsIfThereAreNoBases() {
        CrowdLaws x = of(2);
        x.search();
        putAll(x, 50, 50);
        due("doomed()", x.doomed(), 0);
    }

    @Sentence(at = DOOMED, says = "Whether it is DOOMED: 1, 0.")
    static void promise15_doomed_changesAsTheCrowdDoes() {
        CrowdLaws x = chain();
        x.alone(0, 0);
        x.search();
        due("empty", x.doomed(), 0);
        x.put(0, 2);
        due("put", x.doomed(), 1);
        x.step(0);
        due("stepped", x.doomed(), 1);
        x.put(0, 0);
        due("put away", x.doomed(), 0);
    }

    @Sentence(at = DOOMED, says = "STATE: there was no SEARCH;")
    static void promise15_doomed_noSearch() {
        due("a new object", new CrowdLaws().doomed(), STATE);
        CrowdLaws x = chain();
        x.put(2, 2);
        due("a bad crowd", x.doomed(), STATE);
        x.search();
        x.alone(0, 0);
        due("a rule has come", x.doomed(), STATE);
    }

    @Sentence(at = DOOMED, says = "SPENT: it was.")
    static void promise15_doomed_spent() {
        CrowdLaws x = spent();
        due("an empty crowd", x.doomed(), SPENT);
        x.put(4, 9);
        due("a bad crowd", x.doomed(), SPENT);
    }
}
