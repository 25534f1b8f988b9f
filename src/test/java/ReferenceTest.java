import java.util.ArrayList;
import java.util.HashMap;
import java.util.List;
import java.util.Map;

/**
 * Runs of made-up calls, each answer compared with a second program that follows the document word by word:
 * it goes through all CROWDS where CrowdLaws reckons. The numbers come from a fixed row, so each run is the same.
 * With arguments: the first and the last run (else the runs that .ci/run asks for).
 */
public final class ReferenceTest {
    private static final int UNKNOWN = -1, BAD = -2, STATE = -3, FULL = -4, SPENT = -5, NONE = -9;
    // What the second program can't find out in a bearable time.
    private static final int TOO_DEAR = -77;
    // Nothing is promised of an object behind its 512th call.
    private static final int MOST_CALLS = 512;

    private static int wrong = 0;
    private static int searches = 0, spentOnes = 0, dearOnes = 0, longRuns = 0;

    public static void main(String[] args) {
        int first = args.length > 0 ? Integer.parseInt(args[0]) : 1;
        int last = args.length > 1 ? Integer.parseInt(args[1]) : 450;
        onTheEdge();
        for (int run = first; run <= last && wrong < 20; run++) {
            new Run(run).go();
        }
        System.out.println("reference: " + searches + " searches, " + spentOnes + " spent, " + dearOnes
                + " too dear to compare, " + longRuns + " runs of two steps and more");
        if (searches == 0 || spentOnes == 0 || longRuns == 0) {
            System.out.println("reference: something was never tried");
            wrong++;
        }
        if (wrong != 0) {
            System.exit(1);
        }
    }

    /** Searches that end just ahead of what is SPENT, or behind it. */
    private static void onTheEdge() {
        for (int crowd : new int[] {70, 530, 440, 441, 442, 443, 350, 351, 260, 80, 90}) {
            Run run = new Run(-crowd);
            run.y.dearest = 20000;
            run.due("states 3", run.x.states(3), run.y.states(3));
            run.due("all 0 2 20", run.x.all(0, 2, 20), run.y.all(0, 2, 20));
            run.due("alone 2 1", run.x.alone(2, 1), run.y.alone(2, 1));
            run.due("bad " + crowd, run.x.bad(crowd), run.y.bad(crowd));
            run.compareSearch();
        }
        for (int crowd : new int[] {77, 780, 78, 87, 88, 99, 1540, 1541}) {
            Run run = new Run(-crowd);
            run.y.dearest = 20000;
            run.due("states 4", run.x.states(4), run.y.states(4));
            run.due("alone 0 1", run.x.alone(0, 1), run.y.alone(0, 1));
            run.due("alone 1 2", run.x.alone(1, 2), run.y.alone(1, 2));
            run.due("alone 2 3", run.x.alone(2, 3), run.y.alone(2, 3));
            run.due("bad " + crowd, run.x.bad(crowd), run.y.bad(crowd));
            run.compareSearch();
        }
    }

    /** One run of calls on a new object. */
    private static final class Run {
        final int number;
        long seed;
        final CrowdLaws x = new CrowdLaws();
        final Reference y = new Reference();
        final StringBuilder told = new StringBuilder();
        int calls = 0;
        boolean isOver = false;
        final int most, wildness;

        Run(int number) {
            this.number = number;
            this.seed = number * 7919L + 17;
            this.most = 2 + number % 4;
            this.wildness = number % 3 == 0 ? 12 : 60;
        }

        int below(int n) {
            seed = seed * 6364136223846793005L + 1442695040888963407L;
            return (int) ((seed >>> 33) % n);
        }

        boolean isWild() {
            return below(wildness) == 0;
        }

        int wild() {
            int[] some = {-9, -1, 5, 6, 12, 99, Integer.MIN_VALUE, Integer.MAX_VALUE, -2, 100000, 8, 9, 0};
            return some[below(some.length)];
        }

        int state() {
            return isWild() ? wild() : below(y.s);
        }

        int ruleNumber() {
            return isWild() || y.rules.isEmpty() ? wild() : below(y.rules.size());
        }

        int n() {
            return isWild() ? wild() : 1 + below(8);
        }

        int digits(int least, int top) {
            if (isWild()) {
                return wild();
            }
            int digits = 0;
            for (int i = 0; i < y.s; i++) {
                digits = digits * 10 + least + below(top - least);
            }
            return digits;
        }

        void due(String call, int got, int want) {
            calls++;
            told.append("    ").append(call).append(" -> ").append(want).append('\n');
            if (want == TOO_DEAR) {
                dearOnes++;
                return;
            }
            if (got != want) {
                wrong++;
                System.out.println("reference run " + number + ": " + call + " answered " + got + ", due is " + want);
                System.out.print(told);
            }
        }

        void go() {
            int before = wrong;
            if (below(8) != 0) {
                int s = 1 + below(5);
                due("states " + s, x.states(s), y.states(s));
            }
            int tellings = 2 + below(6);
            for (int i = 0; i < tellings; i++) {
                tell();
            }
            // No turn but the comparison of BASES and RUNS, which look how many calls are left, takes more than 12.
            while (calls < MOST_CALLS - 12 && !isOver && wrong == before) {
                int kind = below(20);
                if (kind == 0) {
                    tell();
                } else if (kind < 6) {
                    atHand();
                } else if (kind < 12) {
                    ask();
                } else {
                    walk();
                }
            }
        }

        void tell() {
            int kind = below(24);
            if (kind < 4) {
                int p = state(), q = state();
                due("alone " + p + " " + q, x.alone(p, q), y.alone(p, q));
            } else if (kind < 9) {
                int p = state(), q = state(), r = state(), t = state();
                due("pair " + p + " " + q + " " + r + " " + t, x.pair(p, q, r, t), y.pair(p, q, r, t));
            } else if (kind < 13) {
                int p = state(), q = state(), map = digits(0, y.s);
                due("all " + p + " " + q + " " + map, x.all(p, q, map), y.all(p, q, map));
            } else if (kind < 16) {
                int rule = ruleNumber(), state = below(4) == 0 ? NONE : state();
                due("need " + rule + " " + state, x.need(rule, state), y.need(rule, state));
            } else if (kind < 21) {
                int crowd = below(5) == 0 ? digits(0, 10) : digits(0, most);
                due("bad " + crowd, x.bad(crowd), y.bad(crowd));
            } else if (kind < 23) {
                int set = isWild() ? wild() : below(1 << y.s);
                due("start " + set, x.start(set), y.start(set));
            } else if (below(12) == 0) {
                int s = isWild() ? wild() : 1 + below(5);
                due("states " + s, x.states(s), y.states(s));
            }
        }

        void atHand() {
            int state = state();
            int rule = ruleNumber();
            switch (below(8)) {
                case 0: case 1: case 2:
                    int n = isWild() ? wild() : below(7) == 0 ? 45 + below(8) : below(6);
                    due("put " + state + " " + n, x.put(state, n), y.put(state, n));
                    break;
                case 3: due("at " + state, x.at(state), y.at(state)); break;
                case 4: due("can " + rule, x.can(rule), y.can(rule)); break;
                case 5: due("step " + rule, x.step(rule), y.step(rule)); break;
                case 6: due("isBad", x.isBad(), y.isBad()); break;
                default:
                    int what = isWild() ? wild() : below(7);
                    due("rule " + rule + " " + what, x.rule(rule, what), y.rule(rule, what));
                    int which = isWild() ? wild() : below(5);
                    due("total " + which, x.total(which), y.total(which));
                    break;
            }
        }

        void ask() {
            switch (below(6)) {
                case 0: due("doomed", x.doomed(), y.doomed()); break;
                case 1: due("bases", x.bases(), y.bases()); break;
                case 2:
                    int i = isWild() || y.found.isEmpty() ? wild() : below(y.found.size() + 1), state = state();
                    due("base " + i + " " + state, x.base(i, state), y.base(i, state));
                    break;
                case 3: due("least", x.least(), y.least()); break;
                default:
                    compareSearch();
                    break;
            }
        }

        void compareSearch() {
            int got = x.search();
            int want = y.search();
            due("search", got, want);
            searches++;
            spentOnes += got == SPENT ? 1 : 0;
            if (want == TOO_DEAR) {
                takeBases(got);
            } else {
                allBases();
            }
        }

        /** When the second program gave up: from here on it takes what the first one found. */
        void takeBases(int outcome) {
            y.outcome = outcome;
            y.found = new ArrayList<>();
            int count = outcome < 0 ? 0 : x.bases();
            calls++;
            isOver = calls + count * y.s > MOST_CALLS;
            for (int i = 0; i < count && !isOver; i++) {
                List<Integer> base = Reference.empty(y.s);
                for (int j = 0; j < y.s; j++) {
                    base.set(j, x.base(i, j));
                    calls++;
                }
                y.found.add(base);
            }
        }

        void allBases() {
            due("bases", x.bases(), y.bases());
            for (int i = 0; i < y.found.size(); i++) {
                for (int j = 0; j < y.s && calls < MOST_CALLS; j++) {
                    compare("base " + i + " " + j, x.base(i, j), y.base(i, j));
                }
            }
        }

        /** Without a word, if it is as due: these are many. */
        void compare(String call, int got, int want) {
            if (got == want) {
                calls++;
            } else {
                due(call, got, want);
            }
        }

        void walk() {
            int n = n();
            switch (below(5)) {
                case 0: due("reach " + n, x.reach(n), y.reach(n)); break;
                case 1: due("steps " + n, x.steps(n), y.steps(n)); break;
                case 2: due("doomedOf " + n, x.doomedOf(n), y.doomedOf(n)); break;
                default:
                    int i = isWild() ? wild() : below(4), state = state();
                    due("run " + n + " " + i + " " + state, x.run(n, i, state), y.run(n, i, state));
                    wholeRun(n);
                    break;
            }
        }

        void wholeRun(int n) {
            int steps = y.steps(n);
            longRuns += steps > 1 ? 1 : 0;
            for (int i = 0; i <= steps; i++) {
                for (int j = 0; j < y.s && calls < MOST_CALLS; j++) {
                    compare("run " + n + " " + i + " " + j, x.run(n, i, j), y.run(n, i, j));
                }
            }
        }
    }

    /** A CROWD is a list of how many are in STATE 0, 1, .. */
    private static final class Told {
        int kind, p, q, r = NONE, t = NONE, map = NONE, need = NONE;
        int[] to;
    }

    private static final class Reference {
        int s = 2, set = 1, dearest = 3000;
        List<Told> rules = new ArrayList<>();
        List<List<Integer>> badOnes = new ArrayList<>();
        List<Integer> hand = empty(2);
        int outcome = STATE;
        List<List<Integer>> found = new ArrayList<>();
        Map<Integer, List<List<Integer>>> runs = new HashMap<>();

        static List<Integer> empty(int s) {
            List<Integer> crowd = new ArrayList<>();
            for (int i = 0; i < s; i++) {
                crowd.add(0);
            }
            return crowd;
        }

        boolean isState(int i) {
            return i >= 0 && i < s;
        }

        void change() {
            outcome = STATE;
            found = new ArrayList<>();
            runs.clear();
        }

        int states(int s) {
            if (s < 1 || s > 5) {
                return BAD;
            }
            int was = this.s;
            this.s = s;
            set = 1;
            rules.clear();
            badOnes.clear();
            hand = empty(s);
            change();
            return was;
        }

        int start(int set) {
            if (set < 1 || set > (1 << s) - 1) {
                return BAD;
            }
            int was = this.set;
            this.set = set;
            runs.clear();
            return was;
        }

        int add(Told rule) {
            if (rules.size() == 12) {
                return FULL;
            }
            rules.add(rule);
            change();
            return rules.size() - 1;
        }

        Told told(int kind, int p, int q) {
            Told rule = new Told();
            rule.kind = kind;
            rule.p = p;
            rule.q = q;
            rule.to = new int[] {0, 1, 2, 3, 4};
            return rule;
        }

        int alone(int p, int q) {
            return !isState(p) || !isState(q) ? UNKNOWN : add(told(0, p, q));
        }

        int pair(int p, int q, int r, int t) {
            if (!isState(p) || !isState(q) || !isState(r) || !isState(t)) {
                return UNKNOWN;
            }
            Told rule = told(1, p, q);
            rule.r = r;
            rule.t = t;
            return add(rule);
        }

        int all(int p, int q, int map) {
            if (!isState(p) || !isState(q)) {
                return UNKNOWN;
            }
            if (map < 0 || String.valueOf(map).length() > s) {
                return BAD;
            }
            Told rule = told(2, p, q);
            rule.map = map;
            String text = "00000" + map;
            for (int i = 0; i < s; i++) {
                rule.to[i] = text.charAt(text.length() - 1 - i) - '0';
                if (rule.to[i] >= s) {
                    return BAD;
                }
            }
            return add(rule);
        }

        int need(int rule, int state) {
            if (rule < 0 || rule >= rules.size() || state != NONE && !isState(state)) {
                return UNKNOWN;
            }
            int was = rules.get(rule).need;
            rules.get(rule).need = state;
            change();
            return was;
        }

        int rule(int rule, int what) {
            if (rule < 0 || rule >= rules.size()) {
                return UNKNOWN;
            }
            Told told = rules.get(rule);
            int[] all = {told.kind, told.p, told.q, told.r, told.t, told.map, told.need};
            return what < 0 || what >= all.length ? BAD : all[what];
        }

        int bad(int crowd) {
            if (crowd <= 0 || String.valueOf(crowd).length() > s) {
                return BAD;
            }
            if (badOnes.size() == 6) {
                return FULL;
            }
            List<Integer> one = empty(s);
            String text = "00000" + crowd;
            for (int i = 0; i < s; i++) {
                one.set(i, text.charAt(text.length() - 1 - i) - '0');
            }
            badOnes.add(one);
            change();
            return badOnes.size();
        }

        static int sum(List<Integer> crowd) {
            return crowd.stream().mapToInt(i -> i).sum();
        }

        int put(int state, int n) {
            if (!isState(state)) {
                return UNKNOWN;
            }
            int was = hand.get(state);
            if (n < 0 || n > 50 || sum(hand) - was + n > 250) {
                return BAD;
            }
            hand.set(state, n);
            return was;
        }

        int at(int state) {
            return isState(state) ? hand.get(state) : UNKNOWN;
        }

        /** Takes out one after another, as the words go; null, if it can't step. */
        List<Integer> after(Told rule, List<Integer> crowd) {
            List<Integer> left = new ArrayList<>(crowd);
            for (int out : rule.kind == 1 ? new int[] {rule.p, rule.r} : new int[] {rule.p}) {
                left.set(out, left.get(out) - 1);
                if (left.get(out) < 0) {
                    return null;
                }
            }
            if (rule.need != NONE && left.get(rule.need) < 1) {
                return null;
            }
            List<Integer> end = empty(s);
            for (int i = 0; i < s; i++) {
                for (int j = 0; j < left.get(i); j++) {
                    end.set(rule.to[i], end.get(rule.to[i]) + 1);
                }
            }
            end.set(rule.q, end.get(rule.q) + 1);
            if (rule.kind == 1) {
                end.set(rule.t, end.get(rule.t) + 1);
            }
            return end;
        }

        int can(int rule) {
            if (rule < 0 || rule >= rules.size()) {
                return UNKNOWN;
            }
            return after(rules.get(rule), hand) == null ? 0 : 1;
        }

        int step(int rule) {
            if (rule < 0 || rule >= rules.size()) {
                return UNKNOWN;
            }
            List<Integer> end = after(rules.get(rule), hand);
            if (end == null) {
                return STATE;
            }
            hand = end;
            int count = 0;
            for (int i = 0; i < rules.size(); i++) {
                count += can(i);
            }
            return count;
        }

        static boolean atLeast(List<Integer> a, List<Integer> b) {
            for (int i = 0; i < a.size(); i++) {
                if (a.get(i) < b.get(i)) {
                    return false;
                }
            }
            return true;
        }

        static boolean above(List<Integer> a, List<List<Integer>> some) {
            return some.stream().anyMatch(b -> atLeast(a, b));
        }

        int isBad() {
            return above(hand, badOnes) ? 1 : 0;
        }

        int doomed() {
            return outcome < 0 ? outcome : above(hand, found) ? 1 : 0;
        }

        int bases() {
            return outcome < 0 ? outcome : found.size();
        }

        int base(int i, int state) {
            if (outcome < 0) {
                return outcome;
            }
            return i < 0 || i >= found.size() || !isState(state) ? UNKNOWN : found.get(i).get(state);
        }

        boolean inStart(List<Integer> crowd) {
            for (int i = 0; i < s; i++) {
                if (crowd.get(i) > 0 && (set & 1 << i) == 0) {
                    return false;
                }
            }
            return true;
        }

        /** Above all the fewest of a BASE there is nothing to wait for. */
        int least() {
            if (outcome < 0) {
                return outcome;
            }
            int least = NONE;
            for (List<Integer> base : found) {
                if (inStart(base) && (least == NONE || sum(base) < least)) {
                    least = sum(base);
                }
            }
            return least;
        }

        static List<List<Integer>> leastOnes(List<List<Integer>> some) {
            List<List<Integer>> remain = new ArrayList<>();
            for (List<Integer> a : some) {
                boolean stays = !remain.contains(a);
                for (List<Integer> b : some) {
                    stays &= a.equals(b) || !atLeast(a, b);
                    if (!stays) {
                        break;
                    }
                }
                if (stays) {
                    remain.add(a);
                }
            }
            return remain;
        }

        int search() {
            List<List<Integer>> now = leastOnes(badOnes);
            found = new ArrayList<>();
            int rounds = 0;
            Map<String, List<List<Integer>>> known = new HashMap<>();
            while (true) {
                List<List<Integer>> together = new ArrayList<>(now);
                for (List<Integer> u : now) {
                    for (int i = 0; i < rules.size(); i++) {
                        String key = i + " " + u;
                        if (!known.containsKey(key)) {
                            known.put(key, before(rules.get(i), u));
                        }
                        if (known.get(key) == null) {
                            return TOO_DEAR;
                        }
                        together.addAll(known.get(key));
                    }
                }
                if (together.size() > 6000) {
                    return TOO_DEAR;
                }
                List<List<Integer>> after = leastOnes(together);
                if (now.containsAll(after) && after.containsAll(now)) {
                    break;
                }
                if (after.size() > 100 || rounds == 40) {
                    outcome = SPENT;
                    return SPENT;
                }
                rounds++;
                now = after;
            }
            now.sort((a, b) -> {
                if (sum(a) != sum(b)) {
                    return sum(a) - sum(b);
                }
                for (int i = 0; i < a.size(); i++) {
                    if (!a.get(i).equals(b.get(i))) {
                        return a.get(i) - b.get(i);
                    }
                }
                return 0;
            });
            found = now;
            outcome = rounds;
            return rounds;
        }

        /** All least CROWDS that step to one AT LEAST u: more than three above u in all is never least. */
        List<List<Integer>> before(Told rule, List<Integer> u) {
            double work = 1;
            for (int i = 1; i <= s; i++) {
                work = work * (sum(u) + 3 + i) / i;
            }
            if (work > dearest) {
                return null;
            }
            List<List<Integer>> least = new ArrayList<>();
            for (int n = 0; n <= sum(u) + 3; n++) {
                for (List<Integer> crowd : crowdsOf(n)) {
                    if (!above(crowd, least)) {
                        List<Integer> end = after(rule, crowd);
                        if (end != null && atLeast(end, u)) {
                            least.add(crowd);
                        }
                    }
                }
            }
            return least;
        }

        final Map<String, List<List<Integer>>> crowds = new HashMap<>();

        /** In their order. */
        List<List<Integer>> crowdsOf(int n) {
            String key = s + " " + n;
            if (!crowds.containsKey(key)) {
                List<List<Integer>> all = new ArrayList<>();
                fill(all, empty(s), 0, n);
                crowds.put(key, all);
            }
            return crowds.get(key);
        }

        void fill(List<List<Integer>> all, List<Integer> crowd, int state, int left) {
            if (state == s - 1) {
                List<Integer> one = new ArrayList<>(crowd);
                one.set(state, left);
                all.add(one);
                return;
            }
            for (int i = 0; i <= left; i++) {
                crowd.set(state, i);
                fill(all, crowd, state + 1, left - i);
            }
            crowd.set(state, 0);
        }

        /** All that can come from some, with by how many steps. */
        Map<List<Integer>, Integer> come(List<List<Integer>> some) {
            Map<List<Integer>, Integer> came = new HashMap<>();
            List<List<Integer>> edge = some;
            for (int level = 0; !edge.isEmpty(); level++) {
                List<List<Integer>> next = new ArrayList<>();
                for (List<Integer> crowd : edge) {
                    if (came.putIfAbsent(crowd, level) == null) {
                        for (Told rule : rules) {
                            List<Integer> end = after(rule, crowd);
                            if (end != null) {
                                next.add(end);
                            }
                        }
                    }
                }
                edge = next;
            }
            return came;
        }

        List<List<Integer>> starts(int n) {
            List<List<Integer>> starts = new ArrayList<>();
            for (List<Integer> crowd : crowdsOf(n)) {
                if (inStart(crowd)) {
                    starts.add(crowd);
                }
            }
            return starts;
        }

        int reach(int n) {
            return n < 1 || n > 8 ? BAD : come(starts(n)).size();
        }

        /** Of all CROWDS the first best run, by fewer steps and more: best of 0 steps, of at most 1, .. */
        List<List<Integer>> bestRun(int n) {
            if (runs.containsKey(n)) {
                return runs.get(n);
            }
            Map<List<Integer>, List<List<Integer>>> best = new HashMap<>();
            for (List<Integer> crowd : crowdsOf(n)) {
                if (above(crowd, badOnes)) {
                    best.put(crowd, List.of(crowd));
                }
            }
            List<List<Integer>> starts = starts(n);
            List<List<Integer>> answer = null;
            while (true) {
                for (List<Integer> start : starts) {
                    if (best.containsKey(start) && (answer == null || isFirst(best.get(start), answer))) {
                        answer = best.get(start);
                    }
                }
                Map<List<Integer>, List<List<Integer>>> more = new HashMap<>();
                for (List<Integer> crowd : crowdsOf(n)) {
                    if (!best.containsKey(crowd)) {
                        for (Told rule : rules) {
                            List<Integer> end = after(rule, crowd);
                            if (end != null && best.containsKey(end)) {
                                List<List<Integer>> way = new ArrayList<>();
                                way.add(crowd);
                                way.addAll(best.get(end));
                                if (!more.containsKey(crowd) || isFirst(way, more.get(crowd))) {
                                    more.put(crowd, way);
                                }
                            }
                        }
                    }
                }
                if (answer != null || more.isEmpty()) {
                    break;
                }
                best.putAll(more);
            }
            runs.put(n, answer);
            return answer;
        }

        static boolean isFirst(List<List<Integer>> a, List<List<Integer>> b) {
            for (int i = 0; i < a.size(); i++) {
                int apart = asNumber(a.get(i)) - asNumber(b.get(i));
                if (apart != 0) {
                    return apart < 0;
                }
            }
            return false;
        }

        static int asNumber(List<Integer> crowd) {
            int number = 0;
            for (int i : crowd) {
                number = number * 10 + i;
            }
            return number;
        }

        int steps(int n) {
            if (n < 1 || n > 8) {
                return BAD;
            }
            return bestRun(n) == null ? NONE : bestRun(n).size() - 1;
        }

        int run(int n, int i, int state) {
            if (n < 1 || n > 8) {
                return BAD;
            }
            if (!isState(state)) {
                return UNKNOWN;
            }
            List<List<Integer>> run = bestRun(n);
            return run == null || i < 0 || i >= run.size() ? NONE : run.get(i).get(state);
        }

        /** By what DOOMED ones are: just those can come to a BAD one. */
        int doomedOf(int n) {
            if (n < 1 || n > 8) {
                return BAD;
            }
            if (outcome < 0) {
                return outcome;
            }
            int count = 0;
            for (List<Integer> crowd : come(starts(n)).keySet()) {
                for (List<Integer> end : come(List.of(crowd)).keySet()) {
                    if (above(end, badOnes)) {
                        count++;
                        break;
                    }
                }
            }
            return count;
        }

        int total(int what) {
            int[] all = {s, rules.size(), badOnes.size(), sum(hand), set};
            return what < 0 || what >= all.length ? BAD : all[what];
        }
    }
}
