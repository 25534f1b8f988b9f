/** Promises 20 to 24: all CROWDS of one number, and total. */
public final class OneNumberTest extends Asking {
    private static final String REACH = "Promise 20: reach";
    private static final String STEPS = "Promise 21: steps";
    private static final String RUN = "Promise 22: run";
    private static final String DOOMED_OF = "Promise 23: doomedOf";
    private static final String TOTAL = "Promise 24: total";

    // ---- promise 20

    @Sentence(at = REACH, says = "How many CROWDS of n can come.")
    static void promise20_reach_ofEachNumber() {
        CrowdLaws x = of(3);
        x.alone(0, 1);
        for (int n = 1; n <= 8; n++) {
            due("two states, reach(" + n + ")", x.reach(n), n + 1);
        }
        x.alone(1, 2);
        for (int n = 8; n >= 1; n--) {
            due("three states, reach(" + n + ")", x.reach(n), (n + 1) * (n + 2) / 2);
        }
    }

    @Sentence(at = REACH, says = "How many CROWDS of n can come.")
    static void promise20_reach_theMostThereAre() {
        CrowdLaws x = of(5);
        x.start(31);
        due("all start", x.reach(8), 495);
        x.start(1);
        for (int p = 0; p < 4; p++) {
            x.alone(p, p + 1);
        }
        due("all can come", x.reach(8), 495);
    }

    @Sentence(at = REACH, says = "How many CROWDS of n can come.")
    static void promise20_reach_oneState() {
        CrowdLaws x = of(1);
        x.alone(0, 0);
        due("reach(1)", x.reach(1), 1);
        due("reach(8)", x.reach(8), 1);
    }

    @Sentence(at = REACH, says = "How many CROWDS of n can come.")
    static void promise20_reach_whoComesTwiceCountsOnce() {
        CrowdLaws x = of(2);
        x.alone(0, 1);
        x.alone(1, 0);
        x.alone(0, 1);
        due("reach(4)", x.reach(4), 5);
    }

    @Sentence(at = REACH, says = "How many CROWDS of n can come.")
    static void promise20_reach_doesNotAskForTheCrowdAtHand() {
        CrowdLaws x = of(2);
        putAll(x, 3, 9);
        due("reach(4)", x.reach(4), 1);
        dueRow("at", hand(x), 3, 9);
    }

    @Sentence(at = REACH, says = "BAD.")
    static void promise20_reach_nIsTooSmall() {
        due("reach(0)", chain().reach(0), BAD);
        due("reach(-1)", chain().reach(-1), BAD);
    }

    @Sentence(at = REACH, says = "BAD.")
    static void promise20_reach_nIsTooLarge() {
        due("reach(9)", chain().reach(9), BAD);
    }

    @Sentence(at = REACH, says = "BAD.")
    static void promise20_reach_nIsFarOff() {
        CrowdLaws x = chain();
        for (int far : FAR) {
            due("reach(" + far + ")", x.reach(far), BAD);
        }
    }

    @Sentence(at = REACH, says = "BAD.")
    static void promise20_reach_refusedChangesNothing() {
        CrowdLaws x = rich();
        changesNothing(x, () -> due("reach(0)", x.reach(0), BAD));
    }

    // ---- promise 21

    @Sentence(at = STEPS, says = "By how many steps a START CROWD of n comes to a BAD one, at least;")
    static void promise21_steps_byHowMany() {
        CrowdLaws x = of(3);
        x.alone(0, 1);
        x.alone(1, 2);
        x.bad(300);
        due("three", x.steps(3), 6);
        due("eight", x.steps(8), 6);
        x.start(3);
        due("from 0 and 1", x.steps(3), 3);
        x.pair(1, 2, 1, 2);
        due("two at once", x.steps(3), 2);
    }

    @Sentence(at = STEPS, says = "By how many steps a START CROWD of n comes to a BAD one, at least;")
    static void promise21_steps_noneIfAStartCrowdIsBad() {
        CrowdLaws x = chain();
        x.start(4);
        due("two", x.steps(2), 0);
        due("eight", x.steps(8), 0);
        due("one is too few", x.steps(1), NONE);
    }

    @Sentence(at = STEPS, says = "By how many steps a START CROWD of n comes to a BAD one, at least;")
    static void promise21_steps_many() {
        CrowdLaws x = of(5);
        for (int p = 0; p < 4; p++) {
            x.alone(p, p + 1);
        }
        x.bad(80000);
        due("eight by four each", x.steps(8), 32);
        due("seven are too few", x.steps(7), NONE);
    }

    @Sentence(at = STEPS, says = "NONE: none does.")
    static void promise21_steps_noneDoes() {
        CrowdLaws x = of(3);
        x.alone(0, 1);
        x.bad(100);
        due("nobody comes to 2", x.steps(8), NONE);
        x.alone(1, 2);
        x.need(1, 2);
        due("nobody is there who is needed", x.steps(8), NONE);
    }

    @Sentence(at = STEPS, says = "NONE: none does.")
    static void promise21_steps_thereAreNoBadOnes() {
        CrowdLaws x = of(2);
        x.alone(0, 1);
        due("steps(3)", x.steps(3), NONE);
    }

    @Sentence(at = STEPS, says = "NONE: none does.")
    static void promise21_steps_theBadOnesAreMoreThanN() {
        CrowdLaws x = of(2);
        x.bad(9);
        due("steps(8)", x.steps(8), NONE);
        x.bad(8);
        due("steps(8) for eight", x.steps(8), 0);
        due("steps(7) for eight", x.steps(7), NONE);
    }

    @Sentence(at = STEPS, says = "BAD.")
    static void promise21_steps_nIsTooSmall() {
        due("steps(0)", chain().steps(0), BAD);
        due("steps(-1)", chain().steps(-1), BAD);
        due("steps(0), no bad ones", of(2).steps(0), BAD);
    }

    @Sentence(at = STEPS, says = "BAD.")
    static void promise21_steps_nIsTooLarge() {
        due("steps(9)", chain().steps(9), BAD);
        due("steps(9), no bad ones", of(2).steps(9), BAD);
    }

    @Sentence(at = STEPS, says = "BAD.")
    static void promise21_steps_nIsFarOff() {
        CrowdLaws x = chain();
        for (int far : FAR) {
            due("steps(" + far + ")", x.steps(far), BAD);
        }
    }

    @Sentence(at = STEPS, says = "BAD.")
    static void promise21_steps_refusedChangesNothing() {
        CrowdLaws x = rich();
        changesNothing(x, () -> due("steps(9)", x.steps(9), BAD));
    }

    // ---- promise 22

    @Sentence(at = RUN, says = "How many are in a STATE of CROWD i (0: the START CROWD) of THE RUN.")
    static void promise22_run_crowdByCrowd() {
        CrowdLaws x = of(3);
        x.alone(0, 2);
        x.alone(0, 1);
        x.alone(2, 1);
        x.bad(20);
        // By 1 0 1, the first, it takes three.
        dueRun("two", x, 2, new int[] {2, 0, 0}, new int[] {1, 1, 0}, new int[] {0, 2, 0});
        dueRun("three", x, 3, new int[] {3, 0, 0}, new int[] {2, 1, 0}, new int[] {1, 2, 0});
    }

    @Sentence(at = RUN, says = "How many are in a STATE of CROWD i (0: the START CROWD) of THE RUN.")
    static void promise22_run_crowd0IsTheStartCrowd() {
        CrowdLaws x = of(3);
        x.start(6);
        x.alone(1, 0);
        x.alone(2, 1);
        x.bad(1);
        dueRun("one", x, 1, new int[] {0, 1, 0}, new int[] {1, 0, 0});
        dueRun("two", x, 2, new int[] {0, 1, 1}, new int[] {1, 0, 1});
    }

    @Sentence(at = RUN, says = "How many are in a STATE of CROWD i (0: the START CROWD) of THE RUN.")
    static void promise22_run_aLongOne() {
        CrowdLaws x = of(5);
        for (int p = 0; p < 4; p++) {
            x.alone(p, p + 1);
        }
        x.bad(80000);
        dueRow("crowd 0", run(x, 8, 0), 8, 0, 0, 0, 0);
        dueRow("crowd 8", run(x, 8, 8), 0, 8, 0, 0, 0);
        dueRow("crowd 31", run(x, 8, 31), 0, 0, 0, 1, 7);
        dueRow("crowd 32", run(x, 8, 32), 0, 0, 0, 0, 8);
        due("run(8, 33, 0)", x.run(8, 33, 0), NONE);
    }

    @Sentence(at = RUN, says = "How many are in a STATE of CROWD i (0: the START CROWD) of THE RUN.")
    static void promise22_run_ofEachNumberByItself() {
        CrowdLaws x = chain();
        due("run(8, 0, 0)", x.run(8, 0, 0), 8);
        due("run(2, 0, 0)", x.run(2, 0, 0), 2);
        due("run(8, 4, 2)", x.run(8, 4, 2), 2);
        due("run(2, 4, 2)", x.run(2, 4, 2), 2);
        due("run(8, 4, 0)", x.run(8, 4, 0), 6);
    }

    @Sentence(at = RUN, says = "BAD: n;")
    static void promise22_run_nIsTooSmall() {
        due("run(0, 0, 0)", chain().run(0, 0, 0), BAD);
        due("run(-1, 0, 0)", chain().run(-1, 0, 0), BAD);
    }

    @Sentence(at = RUN, says = "BAD: n;")
    static void promise22_run_nIsTooLarge() {
        due("run(9, 0, 0)", chain().run(9, 0, 0), BAD);
    }

    @Sentence(at = RUN, says = "BAD: n;")
    static void promise22_run_nIsFarOff() {
        CrowdLaws x = chain();
        for (int far : FAR) {
            due("run(" + far + ", 0, 0)", x.run(far, 0, 0), BAD);
        }
    }

    @Sentence(at = RUN, says = "UNKNOWN: state;")
    static void promise22_run_noSuchState() {
        for (int s = 1; s <= 5; s++) {
            CrowdLaws x = of(s);
            x.bad(1);
            due("the last state of " + s, x.run(1, 0, s - 1), s == 1 ? 1 : 0);
            due("one too high, of " + s, x.run(1, 0, s), UNKNOWN);
            due("-1", x.run(1, 0, -1), UNKNOWN);
            due("NONE", x.run(1, 0, NONE), UNKNOWN);
            for (int far : FAR) {
                due("run(1, 0, " + far + ")", x.run(1, 0, far), UNKNOWN);
            }
        }
    }

    @Sentence(at = RUN, says = "NONE: there is no such CROWD.")
    static void promise22_run_noSuchCrowdOfIt() {
        CrowdLaws x = chain();
        due("the last crowd", x.run(2, 4, 2), 2);
        due("one behind it", x.run(2, 5, 2), NONE);
        due("crowd -1", x.run(2, -1, 2), NONE);
        due("crowd NONE", x.run(2, NONE, 2), NONE);
        due("crowd 495", x.run(2, 495, 2), NONE);
        for (int far : FAR) {
            due("run(2, " + far + ", 0)", x.run(2, far, 0), NONE);
        }
    }

    @Sentence(at = RUN, says = "NONE: there is no such CROWD.")
    static void promise22_run_thereIsNoRun() {
        CrowdLaws x = chain();
        due("crowd 0 of one", x.run(1, 0, 0), NONE);
        due("crowd -1 of one", x.run(1, -1, 0), NONE);
        due("crowd NONE of one", x.run(1, NONE, 0), NONE);
        due("no bad ones", of(2).run(8, 0, 0), NONE);
    }

    @Sentence(at = RUN, says = "NONE: there is no such CROWD.")
    static void promise22_run_thereWasARunAhead() {
        CrowdLaws x = chain();
        due("run(2, 0, 0)", x.run(2, 0, 0), 2);
        x.need(0, 2);
        due("run(2, 0, 0), nobody is needed there", x.run(2, 0, 0), NONE);
        x.need(0, NONE);
        due("run(2, 0, 0) again", x.run(2, 0, 0), 2);
        x.states(3);
        due("run(2, 0, 0), all is new", x.run(2, 0, 0), NONE);
    }

    @Sentence(at = RUN, says = "BAD: n; UNKNOWN: state; NONE: there is no such CROWD.")
    static void promise22_run_refusedChangesNothing() {
        CrowdLaws x = rich();
        changesNothing(x, () -> {
            due("run(9, 0, 0)", x.run(9, 0, 0), BAD);
            due("run(3, 0, 3)", x.run(3, 0, 3), UNKNOWN);
            due("run(3, 99, 0)", x.run(3, 99, 0), NONE);
        });
    }

    // ---- promise 23

    @Sentence(at = DOOMED_OF, says = "How many of the CROWDS of n that can come are DOOMED.")
    static void promise23_doomedOf_someOfThoseThatCanCome() {
        CrowdLaws x = of(3);
        x.alone(0, 1);
        x.alone(0, 2);
        x.bad(20);
        x.search();
        // All with two or more in 0 and 1: 3 0 0, 2 1 0, 2 0 1, 1 2 0, 1 1 1, 0 3 0, 0 2 1.
        due("of three", x.doomedOf(3), 7);
        due("reach(3)", x.reach(3), 10);
        due("of two", x.doomedOf(2), 3);
    }

    @Sentence(at = DOOMED_OF, says = "How many of the CROWDS of n that can come are DOOMED.")
    static void promise23_doomedOf_noneAndAll() {
        CrowdLaws x = chain();
        x.search();
        due("of one", x.doomedOf(1), 0);
        due("of two", x.doomedOf(2), 6);
        due("of eight", x.doomedOf(8), 45);
    }

    @Sentence(at = DOOMED_OF, says = "How many of the CROWDS of n that can come are DOOMED.")
    static void promise23_doomedOf_notThoseThatCannotCome() {
        CrowdLaws x = of(3);
        x.bad(1);
        x.start(6);
        x.search();
        due("nobody is in 0", x.doomedOf(8), 0);
        x.start(7);
        due("all start", x.doomedOf(2), 3);
        x.start(1);
        due("one crowd starts", x.doomedOf(2), 1);
    }

    @Sentence(at = DOOMED_OF, says = "How many of the CROWDS of n that can come are DOOMED.")
    static void promise23_doomedOf_thereAreNoBases() {
        CrowdLaws x = of(2);
        x.search();
        due("doomedOf(8)", x.doomedOf(8), 0);
    }

    @Sentence(at = DOOMED_OF, says = "BAD;")
    static void promise23_doomedOf_nIsTooSmall() {
        CrowdLaws x = rich();
        due("doomedOf(0)", x.doomedOf(0), BAD);
        due("doomedOf(-1)", x.doomedOf(-1), BAD);
    }

    @Sentence(at = DOOMED_OF, says = "BAD;")
    static void promise23_doomedOf_nIsTooLarge() {
        due("doomedOf(9)", rich().doomedOf(9), BAD);
    }

    @Sentence(at = DOOMED_OF, says = "BAD;")
    static void promise23_doomedOf_nIsFarOff() {
        CrowdLaws x = rich();
        for (int far : FAR) {
            due("doomedOf(" + far + ")", x.doomedOf(far), BAD);
        }
    }

    @Sentence(at = DOOMED_OF, says = "BAD;")
    static void promise23_doomedOf_refusedChangesNothing() {
        CrowdLaws x = rich();
        changesNothing(x, () -> {
            due("doomedOf(0)", x.doomedOf(0), BAD);
            due("doomedOf(9)", x.doomedOf(9), BAD);
        });
    }

    @Sentence(at = DOOMED_OF, says = "STATE;")
    static void promise23_doomedOf_noSearch() {
        due("a new object", new CrowdLaws().doomedOf(1), STATE);
        CrowdLaws x = chain();
        x.search();
        x.pair(0, 0, 0, 0);
        due("a rule has come", x.doomedOf(8), STATE);
    }

    @Sentence(at = DOOMED_OF, says = "SPENT.")
    static void promise23_doomedOf_spent() {
        CrowdLaws x = spent();
        due("doomedOf(1)", x.doomedOf(1), SPENT);
        due("doomedOf(8)", x.doomedOf(8), SPENT);
    }

    // ---- promise 24

    @Sentence(at = TOTAL, says = "0 STATES,")
    static void promise24_total_states() {
        for (int s = 1; s <= 5; s++) {
            due("total(0)", of(s).total(0), s);
        }
    }

    @Sentence(at = TOTAL, says = "1 RULES,")
    static void promise24_total_rules() {
        CrowdLaws x = of(2);
        due("none", x.total(1), 0);
        x.alone(0, 1);
        x.pair(0, 1, 0, 1);
        x.all(0, 1, 0);
        due("three", x.total(1), 3);
        due("twelve", full().total(1), 12);
    }

    @Sentence(at = TOTAL, says = "2 BAD ones,")
    static void promise24_total_badOnes() {
        CrowdLaws x = of(2);
        due("none", x.total(2), 0);
        x.bad(1);
        x.bad(1);
        x.bad(11);
        due("three, though one is least", x.total(2), 3);
        due("six", full().total(2), 6);
    }

    @Sentence(at = TOTAL, says = "3 how many are in the CROWD at hand,")
    static void promise24_total_howManyAreAtHand() {
        CrowdLaws x = of(5);
        due("an empty crowd", x.total(3), 0);
        putAll(x, 1, 2, 3, 4, 5);
        due("fifteen", x.total(3), 15);
        putAll(x, 50, 50, 50, 50, 50);
        due("the most", x.total(3), 250);
    }

    @Sentence(at = TOTAL, says = "4 THE START.")
    static void promise24_total_theStart() {
        CrowdLaws x = of(5);
        due("at first", x.total(4), 1);
        x.start(31);
        due("all", x.total(4), 31);
        x.start(18);
        due("1 and 4", x.total(4), 18);
    }

    @Sentence(at = TOTAL, says = "0 STATES, 1 RULES, 2 BAD ones, 3 how many are in the CROWD at hand, 4 THE START.")
    static void promise24_total_noneOfThemChangesAnother() {
        CrowdLaws x = rich();
        int[] want = {3, 3, 2, 5, 3};
        for (int what = 0; what < 5; what++) {
            due("total(" + what + ")", x.total(what), want[what]);
        }
        changesNothing(x, () -> due("total(4)", x.total(4), 3));
    }

    @Sentence(at = TOTAL, says = "BAD.")
    static void promise24_total_noSuchWhat() {
        CrowdLaws x = rich();
        due("total(-1)", x.total(-1), BAD);
        due("total(5)", x.total(5), BAD);
        due("total(NONE)", x.total(NONE), BAD);
        for (int far : FAR) {
            due("total(" + far + ")", x.total(far), BAD);
        }
    }
}
