/** Promises 16 to 19: THE SEARCH, for any number. Its words stand in Terms: see TermsTest too. */
public final class AnyNumberTest extends Asking {
    private static final String SEARCH = "Promise 16: search";
    private static final String BASES = "Promise 17: bases";
    private static final String BASE = "Promise 18: base";
    private static final String LEAST = "Promise 19: least";

    // ---- promise 16

    @Sentence(at = SEARCH, says = "THE SEARCH: in how many ROUNDS something new came.")
    static void promise16_search_nothingIsTold() {
        due("search()", new CrowdLaws().search(), 0);
    }

    @Sentence(at = SEARCH, says = "THE SEARCH: in how many ROUNDS something new came.")
    static void promise16_search_badOnesAloneAreNotNew() {
        CrowdLaws x = of(2);
        x.bad(1);
        x.bad(10);
        due("search()", x.search(), 0);
    }

    @Sentence(at = SEARCH, says = "THE SEARCH: in how many ROUNDS something new came.")
    static void promise16_search_theRoundThatBroughtNothingDoesNotCount() {
        CrowdLaws x = of(2);
        x.alone(0, 1);
        x.bad(10);
        due("search()", x.search(), 1);
    }

    @Sentence(at = SEARCH, says = "THE SEARCH: in how many ROUNDS something new came.")
    static void promise16_search_severalRounds() {
        due("four", chain().search(), 4);
        CrowdLaws x = of(2);
        x.alone(0, 1);
        x.bad(90);
        due("nine", x.search(), 9);
        x.bad(1);
        due("none, as one in 0 is bad", x.search(), 0);
    }

    @Sentence(at = SEARCH, says = "THE SEARCH: in how many ROUNDS something new came.")
    static void promise16_search_onceMoreTellsTheSame() {
        CrowdLaws x = chain();
        due("search()", x.search(), 4);
        changesNothing(x, () -> due("search() once more", x.search(), 4));
    }

    @Sentence(at = SEARCH, says = "THE SEARCH: in how many ROUNDS something new came.")
    static void promise16_search_doesNotAskForTheStartOrTheCrowdAtHand() {
        CrowdLaws x = chain();
        x.search();
        int[] before = base(x, 5);
        CrowdLaws y = chain();
        y.start(4);
        putAll(y, 50, 50, 50);
        due("search()", y.search(), 4);
        due("bases()", y.bases(), 6);
        dueRow("base 5", base(y, 5), before);
        dueRow("the crowd at hand", hand(y), 50, 50, 50);
    }

    @Sentence(at = SEARCH, says = "SPENT.")
    static void promise16_search_spent() {
        CrowdLaws x = spent();
        due("search() once more", x.search(), SPENT);
        x.need(0, NONE);
        due("search() anew", x.search(), SPENT);
    }

    @Sentence(at = SEARCH, says = "SPENT.")
    static void promise16_search_spentAndThenNot() {
        CrowdLaws x = spent();
        x.bad(11111);
        due("still spent", x.search(), SPENT);
        x.bad(10000);
        due("one in 4 is bad", x.search(), 4);
        due("bases()", x.bases(), 5);
    }

    @Sentence(at = SEARCH, says = "SPENT.")
    static void promise16_search_spentChangesNothingElse() {
        CrowdLaws x = spent();
        due("total(1)", x.total(1), 4);
        due("total(2)", x.total(2), 1);
        due("total(4)", x.total(4), 1);
        due("rule(3, 2)", x.rule(3, 2), 4);
        due("reach(1)", x.reach(1), 5);
        due("steps(8)", x.steps(8), NONE);
    }

    // ---- promise 17

    @Sentence(at = BASES, says = "How many BASES there are.")
    static void promise17_bases_howMany() {
        CrowdLaws x = chain();
        x.search();
        due("six", x.bases(), 6);
    }

    @Sentence(at = BASES, says = "How many BASES there are.")
    static void promise17_bases_none() {
        CrowdLaws x = new CrowdLaws();
        x.search();
        due("none", x.bases(), 0);
    }

    @Sentence(at = BASES, says = "How many BASES there are.")
    static void promise17_bases_hundredAreTheMost() {
        CrowdLaws x = of(4);
        x.alone(0, 1);
        x.alone(1, 2);
        // 99 from the first, and the second one.
        x.bad(860);
        x.bad(1000);
        due("search()", x.search(), 22);
        due("a hundred", x.bases(), 100);
    }

    @Sentence(at = BASES, says = "STATE;")
    static void promise17_bases_noSearch() {
        due("a new object", new CrowdLaws().bases(), STATE);
        CrowdLaws x = chain();
        due("rules and a bad one", x.bases(), STATE);
        x.search();
        x.bad(1);
        due("a bad one has come", x.bases(), STATE);
    }

    @Sentence(at = BASES, says = "SPENT.")
    static void promise17_bases_spent() {
        due("spent", spent().bases(), SPENT);
    }

    // ---- promise 18

    @Sentence(at = BASE, says = "How many are in a STATE of BASE i.")
    static void promise18_base_fromTheFirstToTheLast() {
        CrowdLaws x = chain();
        x.search();
        dueBases("all of two", x, new int[] {0, 0, 2}, new int[] {0, 1, 1}, new int[] {0, 2, 0},
                new int[] {1, 0, 1}, new int[] {1, 1, 0}, new int[] {2, 0, 0});
    }

    @Sentence(at = BASE, says = "How many are in a STATE of BASE i.")
    static void promise18_base_fromTheFirstStateToTheLast() {
        CrowdLaws x = of(5);
        x.bad(54321);
        x.search();
        dueRow("base 0", base(x, 0), 1, 2, 3, 4, 5);
    }

    @Sentence(at = BASE, says = "STATE;")
    static void promise18_base_noSearch() {
        due("a new object", new CrowdLaws().base(0, 0), STATE);
        CrowdLaws x = chain();
        x.search();
        x.need(0, 0);
        due("a need has come", x.base(0, 0), STATE);
    }

    @Sentence(at = BASE, says = "SPENT;")
    static void promise18_base_spent() {
        due("spent", spent().base(0, 0), SPENT);
    }

    @Sentence(at = BASE, says = "UNKNOWN: i,")
    static void promise18_base_noSuchBase() {
        CrowdLaws x = chain();
        x.search();
        due("base(5, 0) of six", x.base(5, 0), 2);
        due("base(6, 0) of six", x.base(6, 0), UNKNOWN);
        due("base(-1, 0)", x.base(-1, 0), UNKNOWN);
        due("base(NONE, 0)", x.base(NONE, 0), UNKNOWN);
        for (int far : FAR) {
            due("base(" + far + ", 0)", x.base(far, 0), UNKNOWN);
        }
    }

    @Sentence(at = BASE, says = "UNKNOWN: i,")
    static void promise18_base_thereAreNoBases() {
        CrowdLaws x = new CrowdLaws();
        x.search();
        due("base(0, 0)", x.base(0, 0), UNKNOWN);
    }

    @Sentence(at = BASE, says = "UNKNOWN: i,")
    static void promise18_base_thereWereMoreBasesAhead() {
        CrowdLaws x = chain();
        x.search();
        x.bad(1);
        x.bad(10);
        x.bad(100);
        x.search();
        due("base(2, 0) of three", x.base(2, 0), 1);
        due("base(3, 0) of three", x.base(3, 0), UNKNOWN);
    }

    @Sentence(at = BASE, says = "state.")
    static void promise18_base_noSuchState() {
        for (int s = 1; s <= 5; s++) {
            CrowdLaws x = of(s);
            x.bad(1);
            x.search();
            due("the last state of " + s, x.base(0, s - 1), s == 1 ? 1 : 0);
            due("one too high, of " + s, x.base(0, s), UNKNOWN);
            due("-1", x.base(0, -1), UNKNOWN);
            due("NONE", x.base(0, NONE), UNKNOWN);
            for (int far : FAR) {
                due("base(0, " + far + ")", x.base(0, far), UNKNOWN);
            }
        }
    }

    @Sentence(at = BASE, says = "STATE; SPENT; UNKNOWN: i, state.")
    static void promise18_base_refusedChangesNothing() {
        CrowdLaws x = rich();
        changesNothing(x, () -> {
            due("base(100, 0)", x.base(100, 0), UNKNOWN);
            due("base(-1, 0)", x.base(-1, 0), UNKNOWN);
            due("base(0, 3)", x.base(0, 3), UNKNOWN);
        });
    }

    // ---- promise 19

    @Sentence(at = LEAST, says = "The least n for which a START CROWD of n is DOOMED;")
    static void promise19_least_ofAllBasesInTheStart() {
        CrowdLaws x = of(3);
        x.pair(0, 1, 0, 0);
        x.bad(20);
        x.search();
        due("three in 0", x.least(), 3);
        x.start(2);
        due("two in 1", x.least(), 2);
        x.start(3);
        due("the fewer of 0 and 1", x.least(), 2);
        x.start(5);
        due("2 helps nothing", x.least(), 3);
    }

    @Sentence(at = LEAST, says = "The least n for which a START CROWD of n is DOOMED;")
    static void promise19_least_aStartCrowdMayStandInSeveralStates() {
        CrowdLaws x = of(3);
        x.bad(111);
        x.bad(500);
        x.start(7);
        x.search();
        due("one in each", x.least(), 3);
        x.start(6);
        due("none in 0", x.least(), 5);
    }

    @Sentence(at = LEAST, says = "The least n for which a START CROWD of n is DOOMED;")
    static void promise19_least_oneIsTheFewest() {
        CrowdLaws x = of(2);
        x.bad(1);
        x.search();
        due("one in 0", x.least(), 1);
    }

    @Sentence(at = LEAST, says = "The least n for which a START CROWD of n is DOOMED;")
    static void promise19_least_moreThanEightToo() {
        CrowdLaws x = of(2);
        x.pair(0, 1, 0, 0);
        x.bad(90);
        x.search();
        due("ten", x.least(), 10);
        due("eight are too few", x.steps(8), NONE);
    }

    @Sentence(at = LEAST, says = "NONE: none is, whatever n.")
    static void promise19_least_noBaseStandsInTheStart() {
        CrowdLaws x = of(3);
        x.alone(1, 2);
        x.bad(100);
        x.search();
        due("bases()", x.bases(), 2);
        due("least()", x.least(), NONE);
        x.start(5);
        due("with state 2", x.least(), 1);
    }

    @Sentence(at = LEAST, says = "NONE: none is, whatever n.")
    static void promise19_least_eachBaseHasOneBesidesTheStart() {
        CrowdLaws x = of(3);
        x.bad(11);
        x.bad(101);
        x.search();
        due("least()", x.least(), NONE);
    }

    @Sentence(at = LEAST, says = "NONE: none is, whatever n.")
    static void promise19_least_thereAreNoBases() {
        CrowdLaws x = of(2);
        x.search();
        due("least()", x.least(), NONE);
    }

    @Sentence(at = LEAST, says = "STATE;")
    static void promise19_least_noSearch() {
        due("a new object", new CrowdLaws().least(), STATE);
        CrowdLaws x = chain();
        x.search();
        x.all(0, 0, 0);
        due("a rule has come", x.least(), STATE);
    }

    @Sentence(at = LEAST, says = "SPENT.")
    static void promise19_least_spent() {
        due("spent", spent().least(), SPENT);
    }
}
