/**
 * Crowds of alike things that step by RULES; what must never be is told by least CROWDS (the BAD ones).
 * Backward tells for all numbers at once what can come to a BAD one, Forward goes through all CROWDS of one number.
 */
public final class CrowdLaws {
    public static final int UNKNOWN = -1, BAD = -2, STATE = -3, FULL = -4, SPENT = -5, NONE = -9;

    private static final int MOST_STATES = 5;
    private static final int MOST_RULES = 12;
    private static final int MOST_BAD_ONES = 6;
    private static final int MOST_PUT = 50;
    private static final int MOST_AT_HAND = 250;
    private static final int MOST_BASES = 100;
    private static final int MOST_ROUNDS = 40;
    private static final int MOST_WALKED = 8;
    // So many CROWDS of MOST_WALKED there are in MOST_STATES.
    private static final int MOST_CROWDS = 495;

    private static final int KIND_ALONE = 0, KIND_PAIR = 1, KIND_ALL = 2;

    private final Laws laws = new Laws();
    private final Crowd hand = new Crowd();
    private final Backward backward = new Backward(laws);
    private final Forward forward = new Forward(laws);

    public CrowdLaws() {
    }

    // ---- states, rules

    public int states(int s) {
        if (s < 1 || s > MOST_STATES) {
            return BAD;
        }
        int was = laws.stateCount;
        laws.begin(s);
        hand.clear();
        forgetFindings();
        return was;
    }

    public int start(int set) {
        if (set <= 0 || set >= 1 << laws.stateCount) {
            return BAD;
        }
        int was = laws.startSet;
        laws.startSet = set;
        // The SEARCH doesn't ask for THE START, so what it found stands.
        forward.forget();
        return was;
    }

    public int alone(int p, int q) {
        if (!laws.isState(p) || !laws.isState(q)) {
            return UNKNOWN;
        }
        return addRule(KIND_ALONE, p, q, NONE, NONE, NONE);
    }

    public int pair(int p, int q, int r, int t) {
        if (!laws.isState(p) || !laws.isState(q) || !laws.isState(r) || !laws.isState(t)) {
            return UNKNOWN;
        }
        return addRule(KIND_PAIR, p, q, r, t, NONE);
    }

    public int all(int p, int q, int map) {
        if (!laws.isState(p) || !laws.isState(q)) {
            return UNKNOWN;
        }
        if (!laws.isMap(map)) {
            return BAD;
        }
        return addRule(KIND_ALL, p, q, NONE, NONE, map);
    }

    public int need(int rule, int state) {
        if (!laws.isRule(rule) || state != NONE && !laws.isState(state)) {
            return UNKNOWN;
        }
        Rule changed = laws.rules[rule];
        int was = changed.needed;
        changed.needed = state;
        forgetFindings();
        return was;
    }

    public int rule(int rule, int what) {
        if (!laws.isRule(rule)) {
            return UNKNOWN;
        }
        Rule told = laws.rules[rule];
        switch (what) {
            case 0: return told.kind;
            case 1: return told.p;
            case 2: return told.q;
            case 3: return told.r;
            case 4: return told.t;
            case 5: return told.map;
            case 6: return told.needed;
            default: return BAD;
        }
    }

    public int bad(int crowd) {
        if (crowd <= 0 || !laws.hasFewDigits(crowd)) {
            return BAD;
        }
        if (laws.badCount >= MOST_BAD_ONES) {
            return FULL;
        }
        laws.addBad(crowd);
        forgetFindings();
        return laws.badCount;
    }

    // ---- the crowd at hand

    public int put(int state, int n) {
        if (!laws.isState(state)) {
            return UNKNOWN;
        }
        int was = hand.of(state);
        if (n < 0 || n > MOST_PUT || hand.sum() - was + n > MOST_AT_HAND) {
            return BAD;
        }
        hand.set(state, n);
        return was;
    }

    public int at(int state) {
        return laws.isState(state) ? hand.of(state) : UNKNOWN;
    }

    public int can(int rule) {
        if (!laws.isRule(rule)) {
            return UNKNOWN;
        }
        return laws.rules[rule].fits(hand) ? 1 : 0;
    }

    public int step(int rule) {
        if (!laws.isRule(rule)) {
            return UNKNOWN;
        }
        Rule stepping = laws.rules[rule];
        if (!stepping.fits(hand)) {
            return STATE;
        }
        stepping.lead(hand, laws.spare);
        hand.copy(laws.spare);
        return laws.countFitting(hand);
    }

    public int isBad() {
        return laws.isBadCrowd(hand) ? 1 : 0;
    }

    public int doomed() {
        if (backward.outcome < 0) {
            return backward.outcome;
        }
        return backward.dooms(hand) ? 1 : 0;
    }

    // ---- for any number

    public int search() {
        backward.seek();
        return backward.outcome;
    }

    public int bases() {
        return backward.outcome < 0 ? backward.outcome : backward.now.count;
    }

    public int base(int i, int state) {
        if (backward.outcome < 0) {
            return backward.outcome;
        }
        if (i < 0 || i >= backward.now.count || !laws.isState(state)) {
            return UNKNOWN;
        }
        return backward.now.rows[i].of(state);
    }

    public int least() {
        return backward.outcome < 0 ? backward.outcome : backward.leastFromStart();
    }

    // ---- for one number

    public int reach(int n) {
        if (!isWalkable(n)) {
            return BAD;
        }
        forward.walk(n);
        return forward.cameCount;
    }

    public int steps(int n) {
        if (!isWalkable(n)) {
            return BAD;
        }
        forward.walk(n);
        return forward.fewest;
    }

    public int run(int n, int i, int state) {
        if (!isWalkable(n)) {
            return BAD;
        }
        if (!laws.isState(state)) {
            return UNKNOWN;
        }
        forward.walk(n);
        return forward.onPath(i, state);
    }

    public int doomedOf(int n) {
        if (!isWalkable(n)) {
            return BAD;
        }
        if (backward.outcome < 0) {
            return backward.outcome;
        }
        forward.walk(n);
        return forward.countDoomed(backward);
    }

    public int total(int what) {
        switch (what) {
            case 0: return laws.stateCount;
            case 1: return laws.ruleCount;
            case 2: return laws.badCount;
            case 3: return hand.sum();
            case 4: return laws.startSet;
            default: return BAD;
        }
    }

    private static boolean isWalkable(int n) {
        return n >= 1 && n <= MOST_WALKED;
    }

    private int addRule(int kind, int p, int q, int r, int t, int map) {
        if (laws.ruleCount >= MOST_RULES) {
            return FULL;
        }
        laws.rules[laws.ruleCount].become(kind, p, q, r, t, map);
        laws.ruleCount++;
        forgetFindings();
        return laws.ruleCount - 1;
    }

    private void forgetFindings() {
        backward.forget();
        forward.forget();
    }

    /** How many are in each STATE; there are always none in those above the STATES that there are. */
    private static final class Crowd {
        private final int[] in = new int[MOST_STATES];

        int of(int state) {
            return state >= 0 && state < in.length ? in[state] : 0;
        }

        void set(int state, int n) {
            if (state >= 0 && state < in.length) {
                in[state] = n;
            }
        }

        /** NONE, which is no STATE, takes nothing: so one that a RULE doesn't have can be added too. */
        void add(int state, int n) {
            if (state >= 0 && state < in.length) {
                in[state] += n;
            }
        }

        void clear() {
            for (int i = 0; i < in.length; i++) {
                in[i] = 0;
            }
        }

        void copy(Crowd other) {
            for (int i = 0; i < in.length; i++) {
                in[i] = other.of(i);
            }
        }

        /** Told by digits, that of STATE 0 is the lowest one. */
        void read(int digits) {
            int left = digits;
            for (int i = 0; i < in.length; i++) {
                in[i] = left % 10;
                left /= 10;
            }
        }

        int sum() {
            int sum = 0;
            for (int i = 0; i < in.length; i++) {
                sum += in[i];
            }
            return sum;
        }

        boolean isAtLeast(Crowd other) {
            for (int i = 0; i < in.length; i++) {
                if (in[i] < other.of(i)) {
                    return false;
                }
            }
            return true;
        }

        /** In the order of BASES: by how many all together, then by how many in STATE 0, 1, .. */
        boolean comesBefore(Crowd other) {
            int sumApart = 0;
            int firstApart = 0;
            for (int i = 0; i < in.length; i++) {
                int apart = in[i] - other.of(i);
                sumApart += apart;
                firstApart = firstApart == 0 ? apart : firstApart;
            }
            return sumApart < 0 || sumApart == 0 && firstApart < 0;
        }
    }

    /** A RULE of any kind: one in p goes to q, another one in r to t (if there is an r), the others go to their goals. */
    private static final class Rule {
        private final int[] goals = new int[MOST_STATES];
        private int kind = KIND_ALONE;
        private int p = 0;
        private int q = 0;
        private int r = NONE;
        private int t = NONE;
        private int map = NONE;
        private int needed = NONE;

        void become(int kind, int p, int q, int r, int t, int map) {
            this.kind = kind;
            this.p = p;
            this.q = q;
            this.r = r;
            this.t = t;
            this.map = map;
            this.needed = NONE;
            setGoals();
        }

        private void setGoals() {
            int left = map;
            for (int i = 0; i < goals.length; i++) {
                goals[i] = kind == KIND_ALL ? left % 10 : i;
                left /= 10;
            }
        }

        int goalOf(int state) {
            return state >= 0 && state < goals.length ? goals[state] : NONE;
        }

        /** How many leave a STATE by the RULE itself. */
        private int leavers(int state) {
            return (state == p ? 1 : 0) + (state == r ? 1 : 0);
        }

        /** How many come to a STATE by the RULE itself. */
        private int comers(int state) {
            return (state == q ? 1 : 0) + (state == t ? 1 : 0);
        }

        boolean fits(Crowd crowd) {
            for (int i = 0; i < MOST_STATES; i++) {
                int asked = leavers(i) + (i == needed ? 1 : 0);
                if (crowd.of(i) < asked) {
                    return false;
                }
            }
            return true;
        }

        /** The step; the RULE fits from. */
        void lead(Crowd from, Crowd to) {
            to.clear();
            for (int i = 0; i < goals.length; i++) {
                to.add(goals[i], from.of(i) - leavers(i));
            }
            to.add(q, 1);
            to.add(t, 1);
        }

        /**
         * Of a least CROWD from which a step leads to one AT LEAST base: how many are in it (so many in each such one),
         * and, in lack, how many of those that don't go by the RULE itself have each STATE as their goal.
         * NONE, if there is no such CROWD.
         */
        int findLack(Crowd base, int stateCount, Crowd lack) {
            int sum = r == NONE ? 1 : 2;
            lack.clear();
            for (int i = 0; i < stateCount; i++) {
                int lacking = Math.max(0, base.of(i) - comers(i));
                if (lacking > 0 && !isGoal(i, stateCount)) {
                    return NONE;
                }
                // The needed one is among those that go by the MAP.
                if (needed != NONE && goalOf(needed) == i) {
                    lacking = Math.max(1, lacking);
                }
                lack.set(i, lacking);
                sum += lacking;
            }
            return sum;
        }

        private boolean isGoal(int goal, int stateCount) {
            for (int i = 0; i < stateCount; i++) {
                if (goalOf(i) == goal) {
                    return true;
                }
            }
            return false;
        }

        /** Whether no STATE behind this one has the same goal. */
        boolean isLastToGoal(int state, int stateCount) {
            for (int i = state + 1; i < stateCount; i++) {
                if (goalOf(i) == goalOf(state)) {
                    return false;
                }
            }
            return true;
        }
    }

    /** What has been told: STATES, THE START, RULES, BAD ones. */
    private static final class Laws {
        private final Rule[] rules = new Rule[MOST_RULES];
        private final Crowd[] badOnes = new Crowd[MOST_BAD_ONES];
        private final Crowd spare = new Crowd();
        private int stateCount = 2;
        private int startSet = 1;
        private int ruleCount = 0;
        private int badCount = 0;

        Laws() {
            for (int i = 0; i < rules.length; i++) {
                rules[i] = new Rule();
            }
            for (int i = 0; i < badOnes.length; i++) {
                badOnes[i] = new Crowd();
            }
        }

        void begin(int states) {
            stateCount = states;
            startSet = 1;
            ruleCount = 0;
            badCount = 0;
        }

        boolean isState(int state) {
            return state >= 0 && state < stateCount;
        }

        boolean isRule(int number) {
            return number >= 0 && number < ruleCount && number < rules.length;
        }

        /** Whether a number that isn't negative has no more digits than there are STATES. */
        boolean hasFewDigits(int digits) {
            int left = digits;
            for (int i = 0; i < stateCount; i++) {
                left /= 10;
            }
            return left == 0;
        }

        boolean isMap(int map) {
            if (map < 0 || !hasFewDigits(map)) {
                return false;
            }
            int left = map;
            for (int i = 0; i < stateCount; i++) {
                if (!isState(left % 10)) {
                    return false;
                }
                left /= 10;
            }
            return true;
        }

        void addBad(int digits) {
            if (badCount < badOnes.length) {
                badOnes[badCount].read(digits);
                badCount++;
            }
        }

        boolean isBadCrowd(Crowd crowd) {
            for (int i = 0; i < badCount; i++) {
                if (crowd.isAtLeast(badOnes[i])) {
                    return true;
                }
            }
            return false;
        }

        boolean isInStart(Crowd crowd) {
            for (int i = 0; i < stateCount; i++) {
                if (crowd.of(i) > 0 && (startSet >> i & 1) == 0) {
                    return false;
                }
            }
            return true;
        }

        int countFitting(Crowd crowd) {
            int count = 0;
            for (int i = 0; i < ruleCount; i++) {
                if (rules[i].fits(crowd)) {
                    count++;
                }
            }
            return count;
        }
    }

    /** A number for each RULE in each of many rows. */
    private static final class ByRule {
        private final int[] cells;

        ByRule(int[] cells) {
            this.cells = cells;
        }

        int of(int row, int rule) {
            int cell = row * MOST_RULES + rule;
            return cell >= 0 && cell < cells.length ? cells[cell] : NONE;
        }

        void set(int row, int rule, int n) {
            int cell = row * MOST_RULES + rule;
            if (cell >= 0 && cell < cells.length) {
                cells[cell] = n;
            }
        }
    }

    /** BASES in their order, of which none is AT LEAST another one: they come by how many are in them, the fewest first. */
    private static final class Bases {
        // One more than there may be, to see that there are too many.
        private final Crowd[] rows = new Crowd[MOST_BASES + 1];
        private final boolean[] fresh = new boolean[MOST_BASES + 1];
        private int count = 0;
        private int freshCount = 0;

        Bases() {
            for (int i = 0; i < rows.length; i++) {
                rows[i] = new Crowd();
            }
        }

        void clear() {
            count = 0;
            freshCount = 0;
        }

        boolean areTooMany() {
            return count > MOST_BASES;
        }

        boolean cover(Crowd crowd) {
            for (int i = 0; i < count; i++) {
                if (crowd.isAtLeast(rows[i])) {
                    return true;
                }
            }
            return false;
        }

        /** Takes in one that is AT LEAST none that is here; once there are too many, it doesn't matter which they are. */
        void take(Crowd crowd, boolean isFresh) {
            if (areTooMany()) {
                return;
            }
            Crowd row = rows[count];
            row.copy(crowd);
            int place = count;
            while (place > 0 && row.comesBefore(rows[place - 1])) {
                rows[place] = rows[place - 1];
                fresh[place] = fresh[place - 1];
                place--;
            }
            rows[place] = row;
            fresh[place] = isFresh;
            count++;
            freshCount += isFresh ? 1 : 0;
        }
    }

    /** THE SEARCH: backward from the BAD ones, for all numbers at once. */
    private static final class Backward {
        private final Laws laws;
        private final ByRule sums = new ByRule(new int[MOST_BASES * MOST_RULES]);
        private final Crowd lack = new Crowd();
        private final Crowd maker = new Crowd();
        private Bases now = new Bases();
        private Bases next = new Bases();
        // In how many ROUNDS something new came, or STATE, or SPENT.
        private int outcome = STATE;

        Backward(Laws laws) {
            this.laws = laws;
        }

        void forget() {
            outcome = STATE;
        }

        boolean dooms(Crowd crowd) {
            return now.cover(crowd);
        }

        /** A START CROWD can be AT LEAST a BASE if that has all in THE START; the first such one has the fewest. */
        int leastFromStart() {
            for (int i = 0; i < now.count; i++) {
                if (laws.isInStart(now.rows[i])) {
                    return now.rows[i].sum();
                }
            }
            return NONE;
        }

        void seek() {
            if (outcome != STATE) {
                // Nothing has been told since: it would find the same.
                return;
            }
            takeBadOnes();
            outcome = SPENT;
            for (int rounds = 0; rounds <= MOST_ROUNDS; rounds++) {
                goRound();
                if (next.freshCount == 0) {
                    outcome = rounds;
                    return;
                }
                if (next.areTooMany()) {
                    return;
                }
                Bases old = now;
                now = next;
                next = old;
            }
        }

        private void takeBadOnes() {
            now.clear();
            for (int sum = 1; sum <= 9 * MOST_STATES; sum++) {
                for (int i = 0; i < laws.badCount; i++) {
                    if (laws.badOnes[i].sum() == sum && !now.cover(laws.badOnes[i])) {
                        now.take(laws.badOnes[i], true);
                    }
                }
            }
        }

        /**
         * Those with fewest in them come first: so none that has come is AT LEAST one that comes later,
         * and as soon as there are too many, there will be too many.
         */
        private void goRound() {
            int highest = findSums();
            next.clear();
            for (int sum = 1; sum <= highest && !next.areTooMany(); sum++) {
                keepOld(sum);
                bringNew(sum);
            }
        }

        /** The highest sum of a BASE or of what may come. */
        private int findSums() {
            int highest = 0;
            for (int i = 0; i < now.count; i++) {
                highest = Math.max(highest, now.rows[i].sum());
                for (int j = 0; j < laws.ruleCount; j++) {
                    int sum = laws.rules[j].findLack(now.rows[i], laws.stateCount, lack);
                    highest = Math.max(highest, sum);
                    sums.set(i, j, sum);
                }
            }
            return highest;
        }

        private void keepOld(int sum) {
            for (int i = 0; i < now.count; i++) {
                if (now.rows[i].sum() == sum && !next.cover(now.rows[i])) {
                    next.take(now.rows[i], false);
                }
            }
        }

        /** Only fresh BASES bring something: what the others bring came a ROUND ago and is AT LEAST some BASE. */
        private void bringNew(int sum) {
            for (int i = 0; i < now.count; i++) {
                for (int j = 0; now.fresh[i] && j < laws.ruleCount; j++) {
                    if (sums.of(i, j) == sum) {
                        setOut(laws.rules[j], now.rows[i]);
                        fillFrom(laws.rules[j], 0);
                    }
                }
            }
        }

        /** Those who go by the RULE itself and the needed one are in maker; lack tells who isn't yet. */
        private void setOut(Rule rule, Crowd base) {
            rule.findLack(base, laws.stateCount, lack);
            maker.clear();
            maker.add(rule.p, 1);
            maker.add(rule.r, 1);
            maker.add(rule.needed, 1);
            lack.add(rule.goalOf(rule.needed), -1);
        }

        /**
         * Fills maker, from a STATE on, in all ways in which nothing lacks any more; at most MOST_STATES deep.
         * False, if maker is AT LEAST one that has come: then it is so with more in it too.
         */
        private boolean fillFrom(Rule rule, int state) {
            if (next.areTooMany() || next.cover(maker)) {
                return false;
            }
            if (state >= laws.stateCount) {
                next.take(maker, true);
                return true;
            }
            int goal = rule.goalOf(state);
            int most = lack.of(goal);
            int first = rule.isLastToGoal(state, laws.stateCount) ? most : 0;
            int before = maker.of(state);
            boolean goesOn = true;
            for (int n = first; n <= most && goesOn; n++) {
                maker.set(state, before + n);
                lack.set(goal, most - n);
                goesOn = fillFrom(rule, state + 1);
            }
            maker.set(state, before);
            lack.set(goal, most);
            return true;
        }
    }

    /** All CROWDS of one number that can come, and THE RUN to a BAD one. A place is a number of a CROWD in their order. */
    private static final class Forward {
        private final Laws laws;
        private final Crowd from = new Crowd();
        private final Crowd to = new Crowd();
        // Each CROWD by its digits, that of STATE 0 weighs most.
        private final int[] codes = new int[MOST_CROWDS];
        private final int[] levels = new int[MOST_CROWDS];
        private final int[] queue = new int[MOST_CROWDS];
        // Where a RULE leads; NONE, if it can't step there.
        private final ByRule goals = new ByRule(new int[MOST_CROWDS * MOST_RULES]);
        private final boolean[] leading = new boolean[MOST_CROWDS];
        private final int[] path = new int[MOST_CROWDS];
        private int walked = NONE;
        private int crowdCount = 0;
        private int cameCount = 0;
        private int fewest = NONE;

        Forward(Laws laws) {
            this.laws = laws;
        }

        void forget() {
            walked = NONE;
        }

        void walk(int n) {
            if (walked == n) {
                return;
            }
            listCrowds(n);
            beginAtStart();
            goOn();
            findFewest();
            markLeading();
            choosePath();
            walked = n;
        }

        /** How many are in a STATE of a CROWD of THE RUN. */
        int onPath(int i, int state) {
            if (fewest == NONE || i < 0 || i > fewest || i >= path.length) {
                return NONE;
            }
            decode(codeAt(path[i]));
            return from.of(state);
        }

        int countDoomed(Backward backward) {
            int count = 0;
            for (int i = 0; i < cameCount; i++) {
                decode(codeAt(queue[i]));
                if (backward.dooms(from)) {
                    count++;
                }
            }
            return count;
        }

        private void listCrowds(int n) {
            from.clear();
            from.set(laws.stateCount - 1, n);
            crowdCount = 0;
            boolean isMore = true;
            while (isMore && crowdCount < MOST_CROWDS) {
                codes[crowdCount] = codeOf(from);
                levels[crowdCount] = NONE;
                leading[crowdCount] = false;
                crowdCount++;
                isMore = advance();
            }
        }

        /** From a CROWD to the one that comes next in their order. */
        private boolean advance() {
            int last = laws.stateCount - 1;
            int behind = 0;
            for (int i = last; i > 0; i--) {
                behind += from.of(i);
                from.set(i, 0);
                if (behind > 0) {
                    from.add(i - 1, 1);
                    from.set(last, behind - 1);
                    return true;
                }
            }
            return false;
        }

        private int codeOf(Crowd crowd) {
            int code = 0;
            for (int i = 0; i < laws.stateCount; i++) {
                code = code * 10 + crowd.of(i);
            }
            return code;
        }

        private void decode(int code) {
            int left = code;
            from.clear();
            for (int i = laws.stateCount - 1; i >= 0; i--) {
                from.set(i, left % 10);
                left /= 10;
            }
        }

        private int codeAt(int place) {
            return isPlace(place) ? codes[place] : 0;
        }

        private boolean isPlace(int place) {
            return place >= 0 && place < crowdCount;
        }

        /** The last place whose code isn't above this one. */
        private int placeOf(int code) {
            int place = 0;
            for (int jump = 256; jump > 0; jump /= 2) {
                int probe = place + jump;
                if (probe < crowdCount && codes[probe] <= code) {
                    place = probe;
                }
            }
            return place;
        }

        private void beginAtStart() {
            cameCount = 0;
            for (int i = 0; i < crowdCount; i++) {
                decode(codes[i]);
                if (laws.isInStart(from)) {
                    come(i, 0);
                }
            }
        }

        private void come(int place, int level) {
            if (isPlace(place) && levels[place] == NONE && cameCount < queue.length) {
                levels[place] = level;
                queue[cameCount] = place;
                cameCount++;
            }
        }

        private void goOn() {
            for (int i = 0; i < cameCount; i++) {
                int place = queue[i];
                int level = levelOf(place) + 1;
                decode(codeAt(place));
                for (int j = 0; j < laws.ruleCount; j++) {
                    int goal = NONE;
                    if (laws.rules[j].fits(from)) {
                        laws.rules[j].lead(from, to);
                        goal = placeOf(codeOf(to));
                        come(goal, level);
                    }
                    goals.set(place, j, goal);
                }
            }
        }

        private int levelOf(int place) {
            return isPlace(place) ? levels[place] : NONE;
        }

        /** The queue has those of fewer steps first. */
        private void findFewest() {
            fewest = NONE;
            for (int i = 0; i < cameCount && fewest == NONE; i++) {
                decode(codeAt(queue[i]));
                if (laws.isBadCrowd(from)) {
                    fewest = levelOf(queue[i]);
                }
            }
        }

        /** Marks those that stand on some run to a BAD one by fewest steps, those of most steps first. */
        private void markLeading() {
            for (int i = cameCount - 1; i >= 0; i--) {
                int place = queue[i];
                int level = levelOf(place);
                if (isPlace(place) && level <= fewest) {
                    decode(codeAt(place));
                    leading[place] = level == fewest ? laws.isBadCrowd(from) : firstLeading(place) != NONE;
                }
            }
        }

        /** The first of the leading CROWDS, a step on, to which a step goes from a place; NONE, if there is none. */
        private int firstLeading(int place) {
            int first = NONE;
            for (int j = 0; j < laws.ruleCount; j++) {
                int goal = goals.of(place, j);
                boolean isOn = isPlace(goal) && leading[goal] && levelOf(goal) == levelOf(place) + 1;
                if (isOn && (first == NONE || goal < first)) {
                    first = goal;
                }
            }
            return first;
        }

        private void choosePath() {
            int place = NONE;
            for (int i = crowdCount - 1; i >= 0; i--) {
                if (leading[i] && levels[i] == 0) {
                    place = i;
                }
            }
            for (int i = 0; i <= fewest && i < path.length; i++) {
                path[i] = place;
                place = firstLeading(place);
            }
        }
    }
}
