import java.util.HashSet;
import java.util.Set;

/** 'What it is' and 'Terms': the words that bind all calls together. */
public final class TermsTest extends Asking {
    private static final String WHAT = "What it is", TERMS = "Terms";

    // ---- what it is

    @Sentence(at = WHAT, says = "For any number of them: crowds of alike things in a few states that step alone, by two, or all"
            + " at once; what must never be told by least crowds; a search backward that tells for all numbers at once whether"
            + " that can come, and from how many on; the same by going through all crowds of one number, with a shortest run.")
    static void whatItIs_forAllNumbersAtOnceAndForOneTheSame() {
        CrowdLaws[] some = {rich(), chain(), of(2), of(2), of(4)};
        some[2].pair(0, 1, 0, 1);
        some[2].pair(0, 1, 1, 0);
        some[2].bad(30);
        some[3].alone(0, 1);
        some[3].all(1, 0, 0);
        some[3].need(0, 1);
        some[3].bad(20);
        some[4].alone(0, 1);
        some[4].all(1, 2, 10);
        some[4].pair(1, 3, 2, 3);
        some[4].bad(2010);
        int[] least = {4, 2, 4, NONE, 3};
        for (int i = 0; i < some.length; i++) {
            some[i].search();
            due("laws " + i + ": least()", some[i].least(), least[i]);
            for (int n = 1; n <= 8; n++) {
                boolean canCome = least[i] != NONE && n >= least[i];
                due("laws " + i + ": whether it comes by " + n, some[i].steps(n) >= 0 ? 1 : 0, canCome ? 1 : 0);
            }
        }
    }

    @Sentence(at = WHAT, says = "STATES 0 .. s - 1")
    static void whatItIs_states_from0ToOneLessThanThereAre() {
        for (int s = 1; s <= 5; s++) {
            CrowdLaws x = of(s);
            due("state 0 of " + s, x.at(0), 0);
            due("state s - 1 of " + s, x.at(s - 1), 0);
            due("state s of " + s, x.at(s), UNKNOWN);
            due("state -1 of " + s, x.at(-1), UNKNOWN);
        }
    }

    @Sentence(at = WHAT, says = "(1 to 5;")
    static void whatItIs_states_oneIsTheFewest() {
        CrowdLaws x = new CrowdLaws();
        due("states(1)", x.states(1), 2);
        due("alone(0, 0)", x.alone(0, 0), 0);
        due("all(0, 0, 0)", x.all(0, 0, 0), 1);
        due("pair(0, 0, 0, 0)", x.pair(0, 0, 0, 0), 2);
        due("bad(9)", x.bad(9), 1);
        x.put(0, 1);
        due("step(0)", x.step(0), 2);
        due("search()", x.search(), 0);
        due("least()", x.least(), 9);
        due("reach(8)", x.reach(8), 1);
        due("none", new CrowdLaws().states(0), BAD);
    }

    @Sentence(at = WHAT, says = "(1 to 5;")
    static void whatItIs_states_fiveAreTheMost() {
        CrowdLaws x = new CrowdLaws();
        due("states(5)", x.states(5), 2);
        due("alone(4, 0)", x.alone(4, 0), 0);
        due("bad(10000)", x.bad(10000), 1);
        due("put(4, 1)", x.put(4, 1), 0);
        due("isBad()", x.isBad(), 1);
        due("six", x.states(6), BAD);
    }

    @Sentence(at = WHAT, says = "2 at first).")
    static void whatItIs_states_twoAtFirst() {
        CrowdLaws x = new CrowdLaws();
        due("total(0)", x.total(0), 2);
        due("at(1)", x.at(1), 0);
        due("at(2)", x.at(2), UNKNOWN);
    }

    @Sentence(at = WHAT, says = "An object is used for at most 512 calls after it has been made;")
    static void whatItIs_calls_the512thIsAnswered() {
        CrowdLaws x = new CrowdLaws();
        for (int i = 1; i <= 511; i++) {
            due("call " + i, x.put(0, i % 51), (i - 1) % 51);
        }
        due("call 512", x.at(0), 511 % 51);
    }

    @Sentence(at = WHAT, says = "An object is used for at most 512 calls after it has been made;")
    static void whatItIs_calls_512OfTheDearest() {
        CrowdLaws x = of(5);
        x.start(31);
        for (int i = 0; i < 6; i++) {
            x.all(i % 5, (i + 1) % 5, 12340);
            x.pair(i % 5, (i + 2) % 5, (i + 3) % 5, i % 5);
        }
        x.bad(70000);
        int[] found = new int[5];
        for (int i = 0; i < 165; i++) {
            x.need(0, i % 5);
            due("reach(8)", x.reach(8), 495);
            int rounds = x.search();
            found[i % 5] = i < 5 ? rounds : found[i % 5];
            due("search() as before", rounds, found[i % 5]);
        }
    }

    // ---- crowds

    @Sentence(at = TERMS, says = "A CROWD is how many are in each STATE (told by digits: that of STATE 0 is the lowest decimal one;")
    static void terms_crowd_theDigitOfState0IsTheLowest() {
        CrowdLaws x = of(3);
        x.bad(321);
        putAll(x, 1, 2, 3);
        due("1 2 3", x.isBad(), 1);
        putAll(x, 3, 2, 1);
        due("3 2 1", x.isBad(), 0);
        x.search();
        dueBases("321", x, new int[] {1, 2, 3});
    }

    @Sentence(at = TERMS, says = "so 9 in a STATE at most, where it is told so).")
    static void terms_crowd_nineInAStateAtMostWhereToldByDigits() {
        CrowdLaws x = of(2);
        due("bad(99)", x.bad(99), 1);
        putAll(x, 9, 9);
        due("9 9", x.isBad(), 1);
        putAll(x, 9, 8);
        due("9 8", x.isBad(), 0);
        due("ten in one state can't be told", of(1).bad(10), BAD);
    }

    @Sentence(at = TERMS, says = "so 9 in a STATE at most, where it is told so).")
    static void terms_crowd_moreThanNineWhereNotToldByDigits() {
        CrowdLaws x = of(2);
        x.pair(0, 1, 0, 0);
        x.bad(90);
        x.put(0, 50);
        due("at(0)", x.at(0), 50);
        due("search()", x.search(), 9);
        dueRow("the last base", base(x, 9), 10, 0);
    }

    @Sentence(at = TERMS, says = "A CROWD is AT LEAST another one, if in each STATE it has as many or more.")
    static void terms_atLeast_asManyInEachStateAreEnough() {
        CrowdLaws x = of(3);
        x.bad(203);
        putAll(x, 3, 0, 2);
        due("3 0 2", x.isBad(), 1);
    }

    @Sentence(at = TERMS, says = "A CROWD is AT LEAST another one, if in each STATE it has as many or more.")
    static void terms_atLeast_moreInAnyState() {
        CrowdLaws x = of(3);
        x.bad(203);
        int[][] crowds = {{4, 0, 2}, {3, 1, 2}, {3, 0, 3}, {50, 50, 50}};
        for (int[] crowd : crowds) {
            putAll(x, crowd);
            due(crowd[0] + " " + crowd[1] + " " + crowd[2], x.isBad(), 1);
        }
    }

    @Sentence(at = TERMS, says = "A CROWD is AT LEAST another one, if in each STATE it has as many or more.")
    static void terms_atLeast_oneFewerInOneStateIsNotEnough() {
        CrowdLaws x = of(3);
        x.bad(213);
        int[][] crowds = {{2, 50, 50}, {50, 0, 50}, {50, 50, 1}, {0, 0, 0}};
        for (int[] crowd : crowds) {
            putAll(x, crowd);
            due(crowd[0] + " " + crowd[1] + " " + crowd[2], x.isBad(), 0);
        }
    }

    @Sentence(at = TERMS, says = "THE START is a set of STATES (as bits; bit 0 alone at first):")
    static void terms_start_bit0AloneAtFirst() {
        CrowdLaws x = new CrowdLaws();
        due("total(4)", x.total(4), 1);
        x.bad(1);
        due("all start in 0", x.run(4, 0, 0), 4);
        due("none starts in 1", x.run(4, 0, 1), 0);
    }

    @Sentence(at = TERMS, says = "THE START is a set of STATES (as bits; bit 0 alone at first):")
    static void terms_start_eachBitIsAState() {
        CrowdLaws x = of(5);
        for (int state = 0; state < 5; state++) {
            x.states(5);
            x.start(1 << state);
            x.bad(new int[] {2, 20, 200, 2000, 20000}[state]);
            due("all start in " + state, x.steps(2), 0);
            due("and nowhere else", x.reach(2), 1);
        }
    }

    @Sentence(at = TERMS, says = "START CROWDS have all in those.")
    static void terms_start_noneIsInAnotherState() {
        CrowdLaws x = of(3);
        x.start(5);
        x.bad(10);
        due("none of 8 starts in 1", x.steps(8), NONE);
        due("from 0 0 8 to 8 0 0", x.reach(8), 9);
        x.search();
        due("least()", x.least(), NONE);
    }

    @Sentence(at = TERMS, says = "START CROWDS have all in those.")
    static void terms_start_notEachOfThoseHasOne() {
        CrowdLaws x = of(3);
        x.start(3);
        due("2 0 0, 1 1 0 and 0 2 0 start", x.reach(2), 3);
        x.bad(20);
        due("all in 1 alone", x.steps(2), 0);
        x.search();
        due("least()", x.least(), 2);
    }

    // ---- rules

    @Sentence(at = TERMS, says = "RULES 0, 1, .. (12 at most):")
    static void terms_rules_numberedAsTheyCome() {
        CrowdLaws x = of(3);
        for (int i = 0; i < 12; i++) {
            int got = i % 3 == 0 ? x.all(0, 1, 210) : i % 3 == 1 ? x.pair(0, 1, 0, 2) : x.alone(1, 2);
            due("a rule's number", got, i);
            due("its kind", x.rule(i, 0), new int[] {2, 1, 0}[i % 3]);
        }
    }

    @Sentence(at = TERMS, says = "RULES 0, 1, .. (12 at most):")
    static void terms_rules_twelveOfAllKindsTogether() {
        CrowdLaws x = of(3);
        for (int i = 0; i < 4; i++) {
            x.alone(0, 1);
            x.pair(0, 1, 0, 1);
            x.all(0, 1, 210);
        }
        due("total(1)", x.total(1), 12);
        due("alone, one more", x.alone(0, 1), FULL);
        due("pair, one more", x.pair(0, 1, 0, 1), FULL);
        due("all, one more", x.all(0, 1, 210), FULL);
        due("total(1)", x.total(1), 12);
    }

    @Sentence(at = TERMS, says = "ALONE p q: one in p goes to q.")
    static void terms_alone_justOneGoes() {
        CrowdLaws x = of(3);
        x.alone(0, 2);
        dueStep("of three", x, 0, new int[] {3, 1, 1}, 2, 1, 2);
        dueStep("of one", x, 0, new int[] {1, 0, 0}, 0, 0, 1);
    }

    @Sentence(at = TERMS, says = "ALONE p q: one in p goes to q.")
    static void terms_alone_noneIsInP() {
        CrowdLaws x = of(3);
        x.alone(0, 2);
        dueNoStep("none in 0", x, 0, 0, 5, 5);
        dueNoStep("an empty crowd", x, 0, 0, 0, 0);
    }

    @Sentence(at = TERMS, says = "PAIR p q r t: one in p goes to q, and another one in r to t.")
    static void terms_pair_bothGo() {
        CrowdLaws x = of(4);
        x.pair(0, 1, 2, 3);
        dueStep("one of each", x, 0, new int[] {1, 0, 1, 0}, 0, 1, 0, 1);
        dueStep("of many", x, 0, new int[] {3, 4, 5, 6}, 2, 5, 4, 7);
    }

    @Sentence(at = TERMS, says = "PAIR p q r t: one in p goes to q, and another one in r to t.")
    static void terms_pair_noneIsInPOrInR() {
        CrowdLaws x = of(4);
        x.pair(0, 1, 2, 3);
        dueNoStep("none in p", x, 0, 0, 5, 5, 5);
        dueNoStep("none in r", x, 0, 5, 5, 0, 5);
        dueNoStep("an empty crowd", x, 0, 0, 0, 0, 0);
    }

    @Sentence(at = TERMS, says = "PAIR p q r t: one in p goes to q, and another one in r to t.")
    static void terms_pair_anotherOneIfPAndRAreOne() {
        CrowdLaws x = of(3);
        x.pair(0, 1, 0, 2);
        dueNoStep("one alone", x, 0, 1, 5, 5);
        dueStep("two", x, 0, new int[] {2, 0, 0}, 0, 1, 1);
    }

    @Sentence(at = TERMS, says = "PAIR p q r t: one in p goes to q, and another one in r to t.")
    static void terms_pair_whoComesToRIsNotTheOther() {
        CrowdLaws x = of(3);
        x.pair(0, 1, 1, 2);
        x.pair(1, 2, 0, 1);
        dueNoStep("none in r ahead", x, 0, 3, 0, 0);
        dueNoStep("none in p ahead", x, 1, 3, 0, 0);
        dueStep("one in each", x, 0, new int[] {1, 1, 0}, 0, 1, 1);
    }

    @Sentence(at = TERMS, says = "ALL p q and a MAP: one in p goes to q, and each other one from its STATE i to MAP i")
    static void terms_all_eachOtherOneGoesByTheMap() {
        CrowdLaws x = of(3);
        x.all(0, 1, 12);
        // Two more in 0 go to 2, the one in 1 stays, the four in 2 go to 0.
        dueStep("of many", x, 0, new int[] {3, 1, 4}, 4, 2, 2);
    }

    @Sentence(at = TERMS, says = "ALL p q and a MAP: one in p goes to q, and each other one from its STATE i to MAP i")
    static void terms_all_theOneGoesToQAndNotByTheMap() {
        CrowdLaws x = of(3);
        x.all(0, 1, 222);
        dueStep("one alone", x, 0, new int[] {1, 0, 0}, 0, 1, 0);
        dueStep("one of two", x, 0, new int[] {2, 0, 0}, 0, 1, 1);
    }

    @Sentence(at = TERMS, says = "ALL p q and a MAP: one in p goes to q, and each other one from its STATE i to MAP i")
    static void terms_all_noneIsInP() {
        CrowdLaws x = of(3);
        x.all(0, 1, 0);
        dueNoStep("none in 0", x, 0, 0, 5, 5);
        dueNoStep("an empty crowd", x, 0, 0, 0, 0);
    }

    @Sentence(at = TERMS, says = "(told by digits: that of STATE 0 is the lowest one).")
    static void terms_all_theDigitOfState0IsTheLowest() {
        CrowdLaws x = of(5);
        x.all(0, 0, 1234);
        dueStep("0 stays, 4 to 0, 3 to 1", x, 0, new int[] {1, 0, 0, 2, 3}, 4, 2, 0, 0, 0);
        dueStep("2 stays, 1 to 3", x, 0, new int[] {1, 2, 3, 0, 0}, 1, 0, 3, 2, 0);
        dueStep("0 to 4", x, 0, new int[] {6, 0, 0, 0, 0}, 1, 0, 0, 0, 5);
    }

    @Sentence(at = TERMS, says = "(told by digits: that of STATE 0 is the lowest one).")
    static void terms_all_aDigitThatIsNotWrittenIs0() {
        CrowdLaws x = of(3);
        x.all(1, 1, 1);
        dueStep("0 to 1, the others to 0", x, 0, new int[] {2, 4, 5}, 8, 3, 0);
    }

    @Sentence(at = TERMS, says = "p, q may be one, and so on.")
    static void terms_rules_alonePAndQMayBeOne() {
        CrowdLaws x = of(3);
        due("alone(1, 1)", x.alone(1, 1), 0);
        dueStep("it stays", x, 0, new int[] {0, 1, 0}, 0, 1, 0);
        dueNoStep("none in it", x, 0, 9, 0, 9);
    }

    @Sentence(at = TERMS, says = "p, q may be one, and so on.")
    static void terms_rules_allOfAPairMayBeOne() {
        CrowdLaws x = of(3);
        due("pair(1, 1, 1, 1)", x.pair(1, 1, 1, 1), 0);
        dueStep("both stay", x, 0, new int[] {0, 2, 0}, 0, 2, 0);
        dueNoStep("one alone", x, 0, 9, 1, 9);
    }

    @Sentence(at = TERMS, says = "p, q may be one, and so on.")
    static void terms_rules_aPairMayChangePlaces() {
        CrowdLaws x = of(2);
        due("pair(0, 1, 1, 0)", x.pair(0, 1, 1, 0), 0);
        due("pair(0, 0, 1, 1)", x.pair(0, 0, 1, 1), 1);
        dueStep("they change places", x, 0, new int[] {1, 2}, 1, 2);
        dueStep("both stay", x, 1, new int[] {2, 1}, 2, 1);
    }

    @Sentence(at = TERMS, says = "p, q may be one, and so on.")
    static void terms_rules_bothOfAPairMayComeToOne() {
        CrowdLaws x = of(3);
        due("pair(0, 2, 1, 2)", x.pair(0, 2, 1, 2), 0);
        due("pair(0, 2, 2, 2)", x.pair(0, 2, 2, 2), 1);
        dueStep("both come to 2", x, 0, new int[] {1, 1, 0}, 0, 0, 2);
        dueStep("one comes, the other stays", x, 1, new int[] {1, 0, 1}, 0, 0, 2);
    }

    @Sentence(at = TERMS, says = "p, q may be one, and so on.")
    static void terms_rules_allMayLeaveAllAsItIs() {
        CrowdLaws x = of(3);
        due("all(1, 1, 210)", x.all(1, 1, 210), 0);
        dueStep("all stay", x, 0, new int[] {3, 2, 1}, 3, 2, 1);
    }

    @Sentence(at = TERMS, says = "A RULE may NEED a STATE g: besides the one, or two, that go by the RULE itself")
    static void terms_need_besidesTheOneOfAlone() {
        CrowdLaws x = of(2);
        x.alone(0, 1);
        x.need(0, 0);
        dueNoStep("the one alone", x, 0, 1, 5);
        dueStep("one besides", x, 0, new int[] {2, 0}, 1, 1);
    }

    @Sentence(at = TERMS, says = "A RULE may NEED a STATE g: besides the one, or two, that go by the RULE itself")
    static void terms_need_besidesTheOneOfAll() {
        CrowdLaws x = of(2);
        x.all(0, 1, 10);
        x.need(0, 0);
        dueNoStep("the one alone", x, 0, 1, 5);
        dueStep("one besides", x, 0, new int[] {2, 0}, 1, 1);
    }

    @Sentence(at = TERMS, says = "A RULE may NEED a STATE g: besides the one, or two, that go by the RULE itself")
    static void terms_need_besidesTheTwoOfAPair() {
        CrowdLaws x = of(2);
        x.pair(0, 1, 0, 1);
        x.need(0, 0);
        dueNoStep("the two alone", x, 0, 2, 5);
        dueStep("one besides", x, 0, new int[] {3, 0}, 1, 2);
    }

    @Sentence(at = TERMS, says = "A RULE may NEED a STATE g: besides the one, or two, that go by the RULE itself")
    static void terms_need_besidesTheOtherOfAPair() {
        CrowdLaws x = of(2);
        x.pair(0, 1, 1, 0);
        x.need(0, 1);
        dueNoStep("the other alone", x, 0, 5, 1);
        dueStep("one besides", x, 0, new int[] {1, 2}, 1, 2);
        x.need(0, 0);
        dueNoStep("the one alone", x, 0, 1, 5);
        dueStep("one besides in 0", x, 0, new int[] {2, 1}, 2, 1);
    }

    @Sentence(at = TERMS, says = "(not by the MAP)")
    static void terms_need_whoGoesByTheMapIsEnough() {
        CrowdLaws x = of(3);
        x.all(0, 1, 0);
        x.need(0, 2);
        dueStep("the needed one goes by the map", x, 0, new int[] {1, 0, 1}, 1, 1, 0);
        dueNoStep("none is needed there behind", x, 0, 1, 1, 0);
    }

    @Sentence(at = TERMS, says = "there is one in g ahead of the step.")
    static void terms_need_whoComesToItByTheStepIsNotEnough() {
        CrowdLaws x = of(3);
        x.alone(0, 1);
        x.pair(0, 1, 2, 2);
        x.all(0, 1, 111);
        for (int rule = 0; rule < 3; rule++) {
            x.need(rule, 1);
            dueNoStep("rule " + rule, x, rule, 3, 0, 3);
        }
        dueStep("one is there ahead", x, 0, new int[] {1, 1, 0}, 0, 2, 0);
    }

    @Sentence(at = TERMS, says = "there is one in g ahead of the step.")
    static void terms_need_oneIsEnoughAndStays() {
        CrowdLaws x = of(3);
        x.alone(0, 1);
        x.need(0, 2);
        dueStep("one", x, 0, new int[] {1, 0, 1}, 0, 1, 1);
        dueNoStep("none", x, 0, 5, 5, 0);
    }

    // ---- bad ones

    @Sentence(at = TERMS, says = "BAD ones: least CROWDS as told (6 at most);")
    static void terms_badOnes_sixAtMost() {
        CrowdLaws x = of(2);
        for (int i = 1; i <= 6; i++) {
            due("bad one " + i, x.bad(90 + i), i);
        }
        due("one more", x.bad(1), FULL);
        due("total(2)", x.total(2), 6);
        putAll(x, 1, 0);
        due("the one that was refused", x.isBad(), 0);
        putAll(x, 6, 9);
        due("the sixth", x.isBad(), 1);
    }

    @Sentence(at = TERMS, says = "a CROWD is BAD, if it is AT LEAST one of them.")
    static void terms_badOnes_oneOfThemIsEnough() {
        CrowdLaws x = of(3);
        x.bad(300);
        x.bad(21);
        putAll(x, 0, 0, 3);
        due("the first", x.isBad(), 1);
        putAll(x, 1, 2, 0);
        due("the second", x.isBad(), 1);
        putAll(x, 0, 2, 2);
        due("something of both, but none", x.isBad(), 0);
    }

    @Sentence(at = TERMS, says = "a CROWD is BAD, if it is AT LEAST one of them.")
    static void terms_badOnes_noneAreTold() {
        CrowdLaws x = of(2);
        due("an empty crowd", x.isBad(), 0);
        putAll(x, 50, 50);
        due("a great crowd", x.isBad(), 0);
    }

    // ---- bases

    @Sentence(at = TERMS, says = "BASES: first the BAD ones, of which none is AT LEAST another one")
    static void terms_bases_firstTheBadOnes() {
        CrowdLaws x = of(3);
        x.bad(3);
        x.bad(20);
        x.bad(101);
        due("search()", x.search(), 0);
        dueBases("no rules", x, new int[] {0, 2, 0}, new int[] {1, 0, 1}, new int[] {3, 0, 0});
    }

    @Sentence(at = TERMS, says = "BASES: first the BAD ones, of which none is AT LEAST another one")
    static void terms_bases_theGreatestBadOneToo() {
        CrowdLaws x = of(5);
        x.bad(99999);
        due("search()", x.search(), 0);
        dueBases("nine in each", x, new int[] {9, 9, 9, 9, 9});
        x.start(31);
        due("least()", x.least(), 45);
    }

    @Sentence(at = TERMS, says = "(those that are, are left out).")
    static void terms_bases_aBadOneAtLeastAnotherIsLeftOut() {
        CrowdLaws x = of(2);
        x.bad(31);
        x.bad(30);
        x.bad(11);
        x.bad(99);
        due("search()", x.search(), 0);
        dueBases("told ahead or behind", x, new int[] {1, 1}, new int[] {0, 3});
    }

    @Sentence(at = TERMS, says = "(those that are, are left out).")
    static void terms_bases_theSameBadOneTwiceIsThereOnce() {
        CrowdLaws x = of(2);
        x.bad(30);
        x.bad(30);
        due("search()", x.search(), 0);
        dueBases("twice", x, new int[] {0, 3});
    }

    @Sentence(at = TERMS, says = "A ROUND: to these come, for each BASE u and each RULE, all CROWDS from which a step of the RULE"
            + " leads to one that is AT LEAST u,")
    static void terms_round_eachBaseAndEachRule() {
        CrowdLaws x = of(4);
        x.alone(0, 2);
        x.alone(1, 3);
        x.alone(0, 3);
        x.bad(100);
        x.bad(2000);
        due("search()", x.search(), 2);
        dueBases("by three rules", x, new int[] {0, 0, 1, 0}, new int[] {1, 0, 0, 0}, new int[] {0, 0, 0, 2},
                new int[] {0, 1, 0, 1}, new int[] {0, 2, 0, 0});
    }

    @Sentence(at = TERMS, says = "A ROUND: to these come, for each BASE u and each RULE, all CROWDS from which a step of the RULE"
            + " leads to one that is AT LEAST u,")
    static void terms_round_whereTheStepLeadsMayHaveMore() {
        CrowdLaws x = of(2);
        x.pair(0, 1, 0, 1);
        x.bad(10);
        due("search()", x.search(), 1);
        // 2 0 leads to 0 2, which has one more than 0 1.
        dueBases("pair", x, new int[] {0, 1}, new int[] {2, 0});
    }

    @Sentence(at = TERMS, says = "A ROUND: to these come, for each BASE u and each RULE, all CROWDS from which a step of the RULE"
            + " leads to one that is AT LEAST u,")
    static void terms_round_allCrowdsThatTheMapBringsTogether() {
        CrowdLaws x = of(3);
        x.all(2, 2, 0);
        x.bad(2);
        due("search()", x.search(), 1);
        // One in 2, and two others wherever they are.
        dueBases("merged", x, new int[] {2, 0, 0}, new int[] {0, 0, 3}, new int[] {0, 1, 2}, new int[] {0, 2, 1},
                new int[] {1, 0, 2}, new int[] {1, 1, 1});
    }

    @Sentence(at = TERMS, says = "A ROUND: to these come, for each BASE u and each RULE, all CROWDS from which a step of the RULE"
            + " leads to one that is AT LEAST u,")
    static void terms_round_noneComesFromWhereTheMapLeadsNobody() {
        CrowdLaws x = of(2);
        x.all(0, 1, 0);
        x.bad(20);
        due("two in 1", x.search(), 0);
        dueBases("only one comes to 1", x, new int[] {0, 2});
        x.bad(10);
        due("one in 1", x.search(), 1);
        dueBases("one in 1", x, new int[] {0, 1}, new int[] {1, 0});
    }

    @Sentence(at = TERMS, says = "A ROUND: to these come, for each BASE u and each RULE, all CROWDS from which a step of the RULE"
            + " leads to one that is AT LEAST u,")
    static void terms_round_theNeededOneIsThereToo() {
        CrowdLaws x = of(2);
        x.alone(0, 1);
        x.need(0, 0);
        x.bad(20);
        due("search()", x.search(), 2);
        dueBases("one stays in 0", x, new int[] {0, 2}, new int[] {2, 1}, new int[] {3, 0});
    }

    @Sentence(at = TERMS, says = "A ROUND: to these come, for each BASE u and each RULE, all CROWDS from which a step of the RULE"
            + " leads to one that is AT LEAST u,")
    static void terms_round_theNeededOneBesidesBothOfAPair() {
        CrowdLaws x = of(2);
        x.pair(0, 1, 0, 1);
        x.need(0, 0);
        x.bad(30);
        due("search()", x.search(), 2);
        dueBases("three in 0", x, new int[] {0, 3}, new int[] {3, 1}, new int[] {5, 0});
    }

    @Sentence(at = TERMS, says = "A ROUND: to these come, for each BASE u and each RULE, all CROWDS from which a step of the RULE"
            + " leads to one that is AT LEAST u,")
    static void terms_round_theNeededOneGoesByTheMapToo() {
        CrowdLaws x = of(3);
        x.all(2, 2, 0);
        x.need(0, 1);
        x.bad(2);
        due("search()", x.search(), 1);
        // One in 2, one in 1, and one more wherever it is.
        dueBases("merged", x, new int[] {2, 0, 0}, new int[] {0, 1, 2}, new int[] {0, 2, 1}, new int[] {1, 1, 1});
    }

    @Sentence(at = TERMS, says = "and that are least so (AT LEAST no other such one);")
    static void terms_round_whoComesByTheRuleIsNotAskedForToo() {
        CrowdLaws x = of(3);
        x.pair(0, 2, 1, 2);
        x.bad(300);
        due("search()", x.search(), 2);
        // Two of the three come by the rule, so one alone is there ahead.
        dueBases("pair", x, new int[] {0, 0, 3}, new int[] {1, 1, 1}, new int[] {2, 2, 0});
    }

    @Sentence(at = TERMS, says = "and that are least so (AT LEAST no other such one);")
    static void terms_round_whoIsNeededIsOfThoseWhoAreAskedFor() {
        CrowdLaws x = of(3);
        x.alone(0, 1);
        x.need(0, 2);
        x.bad(210);
        due("search()", x.search(), 1);
        // Two are in 2 anyhow: the need asks for no third one.
        dueBases("need", x, new int[] {0, 1, 2}, new int[] {1, 0, 2});
    }

    @Sentence(at = TERMS, says = "of all together those remain that are AT LEAST no other one.")
    static void terms_round_aNewOneTakesOutOneThatWas() {
        CrowdLaws x = of(2);
        x.pair(0, 1, 0, 1);
        x.bad(10);
        x.bad(3);
        due("search()", x.search(), 1);
        dueBases("2 0 takes out 3 0", x, new int[] {0, 1}, new int[] {2, 0});
        CrowdLaws y = of(2);
        y.alone(0, 1);
        y.bad(10);
        y.bad(2);
        due("alone: search()", y.search(), 1);
        dueBases("1 0 takes out 2 0", y, new int[] {0, 1}, new int[] {1, 0});
        CrowdLaws z = of(2);
        z.all(0, 1, 10);
        z.bad(10);
        z.bad(2);
        due("all: search()", z.search(), 1);
        dueBases("all: 1 0 takes out 2 0", z, new int[] {0, 1}, new int[] {1, 0});
    }

    @Sentence(at = TERMS, says = "of all together those remain that are AT LEAST no other one.")
    static void terms_round_oneThatNoRuleLeadsToRemains() {
        CrowdLaws x = of(2);
        x.all(0, 1, 0);
        x.bad(90);
        x.bad(2);
        due("search()", x.search(), 1);
        // The map leads nobody to 1, so nothing comes to 0 9; from 1 2 two come to 0.
        dueBases("0 9 remains", x, new int[] {2, 0}, new int[] {1, 2}, new int[] {0, 9});
    }

    @Sentence(at = TERMS, says = "of all together those remain that are AT LEAST no other one.")
    static void terms_round_aNewOneAtLeastOneThatWasDoesNotCome() {
        CrowdLaws x = of(2);
        x.alone(0, 1);
        x.bad(1);
        x.bad(30);
        due("search()", x.search(), 0);
        dueBases("1 2 is at least 1 0", x, new int[] {1, 0}, new int[] {0, 3});
    }

    @Sentence(at = TERMS, says = "of all together those remain that are AT LEAST no other one.")
    static void terms_round_ofNewOnesTheLeastRemain() {
        CrowdLaws x = of(3);
        x.pair(0, 2, 1, 1);
        x.alone(0, 2);
        x.all(0, 2, 210);
        x.bad(100);
        due("search()", x.search(), 1);
        // 1 1 0 comes by the pair, but is at least 1 0 0, which comes twice.
        dueBases("three rules", x, new int[] {0, 0, 1}, new int[] {1, 0, 0});
    }

    @Sentence(at = TERMS, says = "THE SEARCH goes on till a ROUND brings nothing new;")
    static void terms_search_goesOnTillNothingNewComes() {
        CrowdLaws x = of(5);
        x.alone(3, 4);
        x.alone(2, 3);
        x.alone(1, 2);
        x.alone(0, 1);
        x.bad(10000);
        due("search()", x.search(), 4);
        dueBases("a chain", x, new int[] {0, 0, 0, 0, 1}, new int[] {0, 0, 0, 1, 0}, new int[] {0, 0, 1, 0, 0},
                new int[] {0, 1, 0, 0, 0}, new int[] {1, 0, 0, 0, 0});
    }

    @Sentence(at = TERMS, says = "THE SEARCH goes on till a ROUND brings nothing new;")
    static void terms_search_noRulesBringNothing() {
        CrowdLaws x = of(2);
        x.bad(11);
        due("search()", x.search(), 0);
        due("bases()", x.bases(), 1);
    }

    @Sentence(at = TERMS, says = "THE SEARCH goes on till a ROUND brings nothing new;")
    static void terms_search_fromNoBadOnesNothingComes() {
        CrowdLaws x = of(2);
        x.alone(0, 1);
        x.all(1, 0, 11);
        due("search()", x.search(), 0);
        due("bases()", x.bases(), 0);
    }

    // ---- spent

    @Sentence(at = TERMS, says = "it is SPENT, if there are more than 100 BASES behind a ROUND,")
    static void terms_spent_100BasesAreNotTooMany() {
        CrowdLaws x = hundred();
        due("search()", x.search(), 22);
        due("bases()", x.bases(), 100);
        due("base(99, 0)", x.base(99, 0), 15);
        due("base(100, 0)", x.base(100, 0), UNKNOWN);
        due("doomed()", x.doomed(), 0);
        due("least()", x.least(), 15);
    }

    @Sentence(at = TERMS, says = "it is SPENT, if there are more than 100 BASES behind a ROUND,")
    static void terms_spent_101BasesAreTooMany() {
        CrowdLaws x = hundred();
        x.bad(1000);
        due("search()", x.search(), SPENT);
        due("bases()", x.bases(), SPENT);
    }

    @Sentence(at = TERMS, says = "it is SPENT, if there are more than 100 BASES behind a ROUND,")
    static void terms_spent_manyInOneRoundAreTooMany() {
        CrowdLaws x = of(5);
        x.all(4, 0, 0);
        x.bad(9);
        due("495 come at once", x.search(), SPENT);
    }

    @Sentence(at = TERMS, says = "it is SPENT, if there are more than 100 BASES behind a ROUND,")
    static void terms_spent_manyThatDoNotRemainAreNotTooMany() {
        CrowdLaws x = of(5);
        x.all(4, 0, 0);
        x.alone(4, 1);
        x.bad(9);
        x.bad(10);
        // The same 495, but all are at least the one in 4 who comes in that ROUND too.
        due("search()", x.search(), 1);
        dueBases("few remain", x, new int[] {0, 0, 0, 0, 1}, new int[] {0, 1, 0, 0, 0}, new int[] {9, 0, 0, 0, 0});
    }

    /** From 0 to 1 to 2, and 15 in them: so many ways to stand there are. */
    private static CrowdLaws hundred() {
        CrowdLaws x = of(4);
        x.alone(0, 1);
        x.alone(1, 2);
        x.bad(780);
        return x;
    }

    @Sentence(at = TERMS, says = "or there were 40 ROUNDS that brought something and one more would.")
    static void terms_spent_40RoundsAreNotTooMany() {
        CrowdLaws x = manyRounds(440);
        due("search()", x.search(), 40);
        due("bases()", x.bases(), 41);
    }

    @Sentence(at = TERMS, says = "or there were 40 ROUNDS that brought something and one more would.")
    static void terms_spent_a41stRoundIsTooMany() {
        CrowdLaws x = manyRounds(350);
        due("search()", x.search(), SPENT);
        due("bases()", x.bases(), SPENT);
    }

    /** One BASE comes in each ROUND: 40 from 4 in STATE 1 and 4 in STATE 2, 41 from 5 and 3. */
    private static CrowdLaws manyRounds(int crowd) {
        CrowdLaws x = of(3);
        x.all(0, 2, 20);
        x.alone(2, 1);
        x.bad(crowd);
        return x;
    }

    // ---- doomed

    @Sentence(at = TERMS, says = "A CROWD is DOOMED, if it is AT LEAST a BASE of a SEARCH that was not SPENT:")
    static void terms_doomed_atLeastABase() {
        CrowdLaws x = chain();
        x.search();
        putAll(x, 1, 1, 0);
        due("a base", x.doomed(), 1);
        putAll(x, 2, 1, 0);
        due("more than a base", x.doomed(), 1);
        putAll(x, 1, 0, 0);
        due("less than a base", x.doomed(), 0);
    }

    @Sentence(at = TERMS, says = "A CROWD is DOOMED, if it is AT LEAST a BASE of a SEARCH that was not SPENT:")
    static void terms_doomed_notOfASpentSearch() {
        CrowdLaws x = spent();
        putAll(x, 0, 0, 0, 0, 9);
        due("a bad one", x.isBad(), 1);
        due("doomed()", x.doomed(), SPENT);
        due("doomedOf(8)", x.doomedOf(8), SPENT);
    }

    @Sentence(at = TERMS, says = "just those can come to a BAD one.")
    static void terms_doomed_justThoseThatCanComeToABadOne() {
        for (int n = 1; n <= 4; n++) {
            for (int a = 0; a <= n; a++) {
                for (int b = 0; a + b <= n; b++) {
                    CrowdLaws x = laws();
                    x.search();
                    putAll(x, a, b, n - a - b);
                    int canCome = comesToBad(a, b, n - a - b, new HashSet<>()) ? 1 : 0;
                    due("doomed() of " + a + " " + b + " " + (n - a - b), x.doomed(), canCome);
                }
            }
        }
    }

    private static CrowdLaws laws() {
        CrowdLaws x = of(3);
        x.alone(0, 1);
        x.pair(1, 2, 1, 0);
        x.all(1, 2, 11);
        x.need(0, 2);
        x.bad(31);
        return x;
    }

    /** By stepping alone. */
    private static boolean comesToBad(int a, int b, int c, Set<Integer> seen) {
        CrowdLaws x = laws();
        if (!seen.add(a * 100 + b * 10 + c)) {
            return false;
        }
        putAll(x, a, b, c);
        if (x.isBad() == 1) {
            return true;
        }
        for (int rule = 0; rule < 3; rule++) {
            putAll(x, a, b, c);
            if (x.step(rule) >= 0 && comesToBad(x.at(0), x.at(1), x.at(2), seen)) {
                return true;
            }
        }
        return false;
    }

    // ---- the order of bases

    @Sentence(at = TERMS, says = "BASES are numbered by how many all together,")
    static void terms_order_basesByHowManyAllTogether() {
        CrowdLaws x = of(2);
        x.bad(40);
        x.bad(1);
        due("search()", x.search(), 0);
        dueBases("one comes ahead of four", x, new int[] {1, 0}, new int[] {0, 4});
    }

    @Sentence(at = TERMS, says = "then by how many in STATE 0, 1, .. (the fewer first).")
    static void terms_order_basesThenByState0ThenBy1AndSoOn() {
        CrowdLaws x = of(4);
        x.bad(1001);
        x.bad(11);
        x.bad(20);
        x.bad(110);
        x.bad(2000);
        x.bad(101);
        due("search()", x.search(), 0);
        dueBases("all of two", x, new int[] {0, 0, 0, 2}, new int[] {0, 1, 1, 0}, new int[] {0, 2, 0, 0},
                new int[] {1, 0, 0, 1}, new int[] {1, 0, 1, 0}, new int[] {1, 1, 0, 0});
    }

    // ---- what makes a search none

    @Sentence(at = TERMS, says = "What is told of the SEARCH is as of the latest one;")
    static void terms_latest_theNewOneCounts() {
        CrowdLaws x = of(2);
        x.bad(20);
        due("search()", x.search(), 0);
        due("least()", x.least(), NONE);
        x.alone(0, 1);
        due("search() anew", x.search(), 2);
        due("bases() anew", x.bases(), 3);
        due("least() anew", x.least(), 2);
        due("doomedOf(2) anew", x.doomedOf(2), 3);
        x.put(0, 2);
        due("doomed() anew", x.doomed(), 1);
    }

    @Sentence(at = TERMS, says = "What is told of the SEARCH is as of the latest one;")
    static void terms_latest_aSpentOneIsTheLatestOneToo() {
        CrowdLaws x = of(5);
        x.bad(90000);
        due("search()", x.search(), 0);
        for (int p = 0; p < 4; p++) {
            x.alone(p, p + 1);
        }
        due("search() anew", x.search(), SPENT);
        due("bases() anew", x.bases(), SPENT);
        x.states(5);
        x.bad(1);
        due("search() that isn't spent", x.search(), 0);
        due("bases() of it", x.bases(), 1);
    }

    @Sentence(at = TERMS, says = "a RULE,")
    static void terms_latest_aloneMakesItNone() {
        CrowdLaws x = rich();
        x.alone(0, 0);
        dueNoSearch(x);
    }

    @Sentence(at = TERMS, says = "a RULE,")
    static void terms_latest_pairMakesItNone() {
        CrowdLaws x = rich();
        x.pair(0, 0, 0, 0);
        dueNoSearch(x);
    }

    @Sentence(at = TERMS, says = "a RULE,")
    static void terms_latest_allMakesItNone() {
        CrowdLaws x = rich();
        x.all(0, 0, 210);
        dueNoSearch(x);
    }

    @Sentence(at = TERMS, says = "a NEED,")
    static void terms_latest_needMakesItNone() {
        CrowdLaws x = rich();
        x.need(0, 2);
        dueNoSearch(x);
    }

    @Sentence(at = TERMS, says = "a BAD one that comes,")
    static void terms_latest_badMakesItNone() {
        CrowdLaws x = rich();
        x.bad(999);
        dueNoSearch(x);
    }

    @Sentence(at = TERMS, says = "and states(), make it none.")
    static void terms_latest_statesMakesItNone() {
        CrowdLaws x = rich();
        x.states(3);
        dueNoSearch(x);
    }

    @Sentence(at = TERMS, says = "a RULE, a NEED, a BAD one that comes, and states(), make it none.")
    static void terms_latest_aSpentOneBecomesNoneToo() {
        CrowdLaws x = spent();
        x.alone(0, 0);
        dueNoSearch(x);
        x = spent();
        x.need(0, 0);
        dueNoSearch(x);
        x = spent();
        x.bad(1);
        dueNoSearch(x);
        x = spent();
        x.states(5);
        dueNoSearch(x);
    }

    @Sentence(at = TERMS, says = "a RULE, a NEED, a BAD one that comes, and states(), make it none.")
    static void terms_latest_whatElseIsToldLeavesIt() {
        CrowdLaws x = chain();
        x.search();
        x.start(7);
        x.put(0, 3);
        x.step(0);
        x.reach(3);
        x.steps(3);
        x.run(3, 0, 0);
        due("bases()", x.bases(), 6);
        due("doomed()", x.doomed(), 1);
        due("least() by the new start", x.least(), 2);
        due("doomedOf(2) by the new start", x.doomedOf(2), 6);
    }

    @Sentence(at = TERMS, says = "a RULE, a NEED, a BAD one that comes, and states(), make it none.")
    static void terms_latest_whatIsRefusedLeavesIt() {
        CrowdLaws x = full();
        int bases = x.bases();
        x.alone(3, 0);
        x.alone(0, 0);
        x.pair(0, 0, 0, 3);
        x.pair(0, 0, 0, 0);
        x.all(0, 0, 333);
        x.all(0, 0, 0);
        x.need(12, 0);
        x.need(0, 3);
        x.bad(0);
        x.bad(1);
        x.states(6);
        x.start(8);
        due("bases()", x.bases(), bases);
        due("doomed()", x.doomed(), 1);
    }

    private static void dueNoSearch(CrowdLaws x) {
        due("doomed()", x.doomed(), STATE);
        due("bases()", x.bases(), STATE);
        due("base(0, 0)", x.base(0, 0), STATE);
        due("least()", x.least(), STATE);
        due("doomedOf(2)", x.doomedOf(2), STATE);
    }

    // ---- for one number

    @Sentence(at = TERMS, says = "For n (1 to 8):")
    static void terms_n_oneIsTheLeast() {
        CrowdLaws x = chain();
        x.search();
        due("reach(1)", x.reach(1), 3);
        due("steps(1)", x.steps(1), NONE);
        due("run(1, 0, 0)", x.run(1, 0, 0), NONE);
        due("doomedOf(1)", x.doomedOf(1), 0);
        due("reach(0)", x.reach(0), BAD);
        due("steps(0)", x.steps(0), BAD);
        due("run(0, 0, 0)", x.run(0, 0, 0), BAD);
        due("doomedOf(0)", x.doomedOf(0), BAD);
    }

    @Sentence(at = TERMS, says = "For n (1 to 8):")
    static void terms_n_eightIsTheMost() {
        CrowdLaws x = chain();
        x.search();
        due("reach(8)", x.reach(8), 45);
        due("steps(8)", x.steps(8), 4);
        due("run(8, 4, 2)", x.run(8, 4, 2), 2);
        due("doomedOf(8)", x.doomedOf(8), 45);
        due("reach(9)", x.reach(9), BAD);
        due("steps(9)", x.steps(9), BAD);
        due("run(9, 0, 0)", x.run(9, 0, 0), BAD);
        due("doomedOf(9)", x.doomedOf(9), BAD);
    }

    @Sentence(at = TERMS, says = "all CROWDS of n that can come from START CROWDS of n,")
    static void terms_n_allThatCanCome() {
        CrowdLaws x = of(3);
        x.pair(0, 1, 0, 2);
        due("by one step", x.reach(2), 2);
        x.alone(1, 0);
        due("by steps of both rules", x.reach(2), 3);
        x.alone(2, 1);
        due("all but both in 2", x.reach(2), 5);
    }

    @Sentence(at = TERMS, says = "these too.")
    static void terms_n_startCrowdsToo() {
        CrowdLaws x = of(3);
        due("one start crowd, no rules", x.reach(5), 1);
        x.start(7);
        due("all start", x.reach(5), 21);
        x.start(1);
        x.all(0, 1, 111);
        due("5 0 0 and 0 5 0", x.reach(5), 2);
    }

    @Sentence(at = TERMS, says = "CROWDS are ordered as numbers by the digits of STATE 0, 1, .. (STATE 0 weighs most),")
    static void terms_order_state0WeighsMost() {
        CrowdLaws x = of(3);
        x.start(7);
        x.bad(11);
        x.bad(200);
        // As 0 0 2 and 1 1 0; by the lowest digit for STATE 0 it would be the other one.
        dueRun("0 0 2", x, 2, new int[] {0, 0, 2});
    }

    @Sentence(at = TERMS, says = "CROWDS are ordered as numbers by the digits of STATE 0, 1, .. (STATE 0 weighs most),")
    static void terms_order_thenState1AndSoOn() {
        CrowdLaws x = of(4);
        x.start(15);
        x.bad(11);
        x.bad(1001);
        x.bad(101);
        dueRun("1 0 0 1", x, 2, new int[] {1, 0, 0, 1});
    }

    @Sentence(at = TERMS, says = "the least first.")
    static void terms_order_theLeastFirst() {
        CrowdLaws x = of(2);
        x.start(3);
        x.bad(10);
        x.bad(1);
        dueRun("0 3", x, 3, new int[] {0, 3});
    }

    @Sentence(at = TERMS, says = "A RUN to BAD: from a START CROWD by fewest steps;")
    static void terms_run_byFewestSteps() {
        CrowdLaws x = of(4);
        x.alone(0, 3);
        x.alone(3, 1);
        x.alone(1, 2);
        x.alone(0, 1);
        x.bad(100);
        // By 0 0 0 1, the first, it takes three.
        dueRun("by 0 1 0 0", x, 1, new int[] {1, 0, 0, 0}, new int[] {0, 1, 0, 0}, new int[] {0, 0, 1, 0});
    }

    @Sentence(at = TERMS, says = "A RUN to BAD: from a START CROWD by fewest steps;")
    static void terms_run_fromTheStartCrowdOfFewestSteps() {
        CrowdLaws x = of(4);
        x.start(3);
        x.alone(1, 2);
        x.alone(2, 3);
        x.alone(0, 3);
        x.bad(1000);
        // 0 1 0 0 is the first start crowd, but takes two.
        dueRun("from 1 0 0 0", x, 1, new int[] {1, 0, 0, 0}, new int[] {0, 0, 0, 1});
    }

    @Sentence(at = TERMS, says = "A RUN to BAD: from a START CROWD by fewest steps;")
    static void terms_run_aStartCrowdThatIsBadIsARunOfNoSteps() {
        CrowdLaws x = of(2);
        x.alone(0, 1);
        x.bad(3);
        dueRun("3 0", x, 3, new int[] {3, 0});
    }

    @Sentence(at = TERMS, says = "of like ones the first by CROWDS,")
    static void terms_run_ofLikeOnesTheFirst() {
        CrowdLaws x = of(4);
        x.alone(0, 1);
        x.alone(0, 2);
        x.alone(2, 3);
        x.alone(1, 3);
        x.bad(1000);
        // 1 0 1 0 comes ahead of 1 1 0 0, though its rule comes behind.
        dueRun("by 1 0 1 0", x, 2, new int[] {2, 0, 0, 0}, new int[] {1, 0, 1, 0}, new int[] {1, 0, 0, 1});
    }

    @Sentence(at = TERMS, says = "of like ones the first by CROWDS,")
    static void terms_run_ofLikeStartCrowdsTheFirst() {
        CrowdLaws x = of(3);
        x.start(3);
        x.alone(0, 2);
        x.alone(1, 2);
        x.bad(100);
        dueRun("from 0 2 0", x, 2, new int[] {0, 2, 0}, new int[] {0, 1, 1});
    }

    @Sentence(at = TERMS, says = "compared one by one.")
    static void terms_run_theFirstCrowdThatIsNotLikeDecides() {
        CrowdLaws x = of(5);
        x.alone(0, 1);
        x.alone(0, 2);
        x.alone(1, 4);
        x.alone(2, 3);
        x.bad(1000);
        x.bad(10000);
        // By 0 1 0 0 0 it would end in 0 0 0 0 1, which comes ahead of 0 0 0 1 0.
        dueRun("by 0 0 1 0 0", x, 1, new int[] {1, 0, 0, 0, 0}, new int[] {0, 0, 1, 0, 0}, new int[] {0, 0, 0, 1, 0});
    }

    // ---- refusals

    @Sentence(at = TERMS, says = "REFUSALS: UNKNOWN -1")
    static void terms_refusals_unknown() {
        due("UNKNOWN", CrowdLaws.UNKNOWN, -1);
        due("at(2)", new CrowdLaws().at(2), CrowdLaws.UNKNOWN);
    }

    @Sentence(at = TERMS, says = "(there is no such STATE, RULE, BASE),")
    static void terms_refusals_unknownStateRuleAndBase() {
        CrowdLaws x = rich();
        due("no such state", x.at(3), UNKNOWN);
        due("no such rule", x.can(3), UNKNOWN);
        due("no such base", x.base(x.bases(), 0), UNKNOWN);
    }

    @Sentence(at = TERMS, says = "BAD -2,")
    static void terms_refusals_bad() {
        due("BAD", CrowdLaws.BAD, -2);
        due("states(0)", new CrowdLaws().states(0), CrowdLaws.BAD);
    }

    @Sentence(at = TERMS, says = "STATE -3,")
    static void terms_refusals_state() {
        due("STATE", CrowdLaws.STATE, -3);
        due("bases()", new CrowdLaws().bases(), CrowdLaws.STATE);
    }

    @Sentence(at = TERMS, says = "FULL -4,")
    static void terms_refusals_full() {
        due("FULL", CrowdLaws.FULL, -4);
        due("bad(1)", full().bad(1), CrowdLaws.FULL);
    }

    @Sentence(at = TERMS, says = "SPENT -5.")
    static void terms_refusals_spent() {
        due("SPENT", CrowdLaws.SPENT, -5);
        due("bases()", spent().bases(), CrowdLaws.SPENT);
    }

    @Sentence(at = TERMS, says = "NONE is -9.")
    static void terms_refusals_noneIsNoRefusal() {
        due("NONE", CrowdLaws.NONE, -9);
        due("steps(1)", new CrowdLaws().steps(1), CrowdLaws.NONE);
    }

    @Sentence(at = TERMS, says = "Of several what is told first.")
    static void terms_several_aloneAndPairUnknownAheadOfFull() {
        CrowdLaws x = full();
        due("alone(3, 0)", x.alone(3, 0), UNKNOWN);
        due("alone(0, 3)", x.alone(0, 3), UNKNOWN);
        due("pair(3, 0, 0, 0)", x.pair(3, 0, 0, 0), UNKNOWN);
        due("pair(0, 0, 0, 3)", x.pair(0, 0, 0, 3), UNKNOWN);
    }

    @Sentence(at = TERMS, says = "Of several what is told first.")
    static void terms_several_allUnknownAheadOfBad() {
        CrowdLaws x = of(3);
        due("all(3, 0, 3)", x.all(3, 0, 3), UNKNOWN);
        due("all(0, 3, 1000)", x.all(0, 3, 1000), UNKNOWN);
        due("all(-1, 0, -1)", x.all(-1, 0, -1), UNKNOWN);
    }

    @Sentence(at = TERMS, says = "Of several what is told first.")
    static void terms_several_allUnknownAndBadAheadOfFull() {
        CrowdLaws x = full();
        due("all(3, 0, 0)", x.all(3, 0, 0), UNKNOWN);
        due("all(0, 3, 0)", x.all(0, 3, 0), UNKNOWN);
        due("all(0, 0, 3)", x.all(0, 0, 3), BAD);
        due("all(0, 0, 1000)", x.all(0, 0, 1000), BAD);
    }

    @Sentence(at = TERMS, says = "Of several what is told first.")
    static void terms_several_ruleUnknownAheadOfBad() {
        CrowdLaws x = rich();
        due("rule(3, 7)", x.rule(3, 7), UNKNOWN);
        due("rule(-1, -1)", x.rule(-1, -1), UNKNOWN);
    }

    @Sentence(at = TERMS, says = "Of several what is told first.")
    static void terms_several_badBadAheadOfFull() {
        CrowdLaws x = full();
        due("bad(0)", x.bad(0), BAD);
        due("bad(1000)", x.bad(1000), BAD);
    }

    @Sentence(at = TERMS, says = "Of several what is told first.")
    static void terms_several_putUnknownAheadOfBad() {
        CrowdLaws x = of(3);
        due("put(3, 51)", x.put(3, 51), UNKNOWN);
        due("put(-1, -1)", x.put(-1, -1), UNKNOWN);
    }

    @Sentence(at = TERMS, says = "Of several what is told first.")
    static void terms_several_baseStateAndSpentAheadOfUnknown() {
        CrowdLaws x = of(3);
        due("base(-1, 0)", x.base(-1, 0), STATE);
        due("base(0, 3)", x.base(0, 3), STATE);
        CrowdLaws y = spent();
        due("base(-1, 0), spent", y.base(-1, 0), SPENT);
        due("base(0, 5), spent", y.base(0, 5), SPENT);
    }

    @Sentence(at = TERMS, says = "Of several what is told first.")
    static void terms_several_runBadAheadOfUnknownAheadOfNone() {
        CrowdLaws x = chain();
        due("run(0, 0, 3)", x.run(0, 0, 3), BAD);
        due("run(9, -1, 0)", x.run(9, -1, 0), BAD);
        due("run(1, 0, 3), no run", x.run(1, 0, 3), UNKNOWN);
        due("run(2, 5, -1)", x.run(2, 5, -1), UNKNOWN);
        due("run(2, 5, 0)", x.run(2, 5, 0), NONE);
    }

    @Sentence(at = TERMS, says = "Of several what is told first.")
    static void terms_several_doomedOfBadAheadOfStateAndSpent() {
        CrowdLaws x = of(3);
        due("doomedOf(0)", x.doomedOf(0), BAD);
        due("doomedOf(9)", x.doomedOf(9), BAD);
        CrowdLaws y = spent();
        due("doomedOf(0), spent", y.doomedOf(0), BAD);
        due("doomedOf(9), spent", y.doomedOf(9), BAD);
    }

    @Sentence(at = TERMS, says = "What is refused changes nothing.")
    static void terms_refused_changesNothing() {
        CrowdLaws x = rich();
        changesNothing(x, () -> refuseAll(x));
    }

    @Sentence(at = TERMS, says = "What is refused changes nothing.")
    static void terms_refused_changesNothingOfASpentSearch() {
        CrowdLaws x = spent();
        changesNothing(x, () -> refuseAll(x));
        due("bases()", x.bases(), SPENT);
    }

    @Sentence(at = TERMS, says = "What is refused changes nothing.")
    static void terms_refused_changesNothingOfAFullOne() {
        CrowdLaws x = full();
        changesNothing(x, () -> {
            x.alone(0, 1);
            x.pair(0, 1, 0, 1);
            x.all(0, 1, 0);
            x.bad(1);
        });
    }

    @Sentence(at = TERMS, says = "What is refused changes nothing.")
    static void terms_refused_changesNothingWhereThereWasNoSearch() {
        CrowdLaws x = chain();
        due("doomed()", x.doomed(), STATE);
        due("bases()", x.bases(), STATE);
        due("base(0, 0)", x.base(0, 0), STATE);
        due("least()", x.least(), STATE);
        due("doomedOf(3)", x.doomedOf(3), STATE);
        due("still none", x.bases(), STATE);
        due("total(3)", x.total(3), 0);
    }

    /** A call of each kind that is refused with three STATES, and with five. */
    private static void refuseAll(CrowdLaws x) {
        due("states", x.states(6), BAD);
        due("start", x.start(32), BAD);
        due("alone", x.alone(0, 5), UNKNOWN);
        due("pair", x.pair(0, 1, 0, 5), UNKNOWN);
        due("all, q", x.all(0, 5, 0), UNKNOWN);
        due("all, map", x.all(0, 0, 5), BAD);
        due("need, rule", x.need(4, 0), UNKNOWN);
        due("need, state", x.need(0, 5), UNKNOWN);
        due("rule, rule", x.rule(4, 0), UNKNOWN);
        due("rule, what", x.rule(0, 7), BAD);
        due("bad", x.bad(100000), BAD);
        due("put, state", x.put(5, 1), UNKNOWN);
        due("put, n", x.put(0, 51), BAD);
        due("at", x.at(5), UNKNOWN);
        due("can", x.can(4), UNKNOWN);
        due("step", x.step(4), UNKNOWN);
        due("base", x.base(100, 0), x.bases() < 0 ? SPENT : UNKNOWN);
        due("reach", x.reach(9), BAD);
        due("steps", x.steps(9), BAD);
        due("run, n", x.run(9, 0, 0), BAD);
        due("run, state", x.run(3, 0, 5), UNKNOWN);
        due("doomedOf", x.doomedOf(9), BAD);
        due("total", x.total(5), BAD);
    }
}
