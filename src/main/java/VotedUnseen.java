import java.util.NoSuchElementException;

/** A town that once a month chooses one whom nobody may see. */
public final class VotedUnseen {
    public static final int NONE = -1;

    private static final int NOBODY = -2;
    private static final int NOT_SO = -2;
    private static final int TOO_LITTLE = -2;
    private static final int TOO_MUCH = -3;
    private static final int FINE = -1;

    private static final int MOST_PEOPLE = 8;
    private static final int MOST_BREAD = 99;
    private static final int MOST_TIMES = 999;
    private static final int MOST_DEBT = 999;
    private static final int MOST_NOTICED = 12;
    private static final int MOST_UNDONE = 15;
    private static final int MOST_KEPT = 3;
    private static final int MOST_CANVASSED = 9;

    private static final int LONGEST_TEXT = 80;
    private static final int LONGEST_PEOPLE = 79;
    private static final int LONGEST_RULE = 40;
    private static final int LONGEST_YEAR = 60;
    private static final int LONGEST_WALK = 8;
    private static final int LINE = 10;
    private static final int DEEPEST = 4;
    private static final int FARTHEST = 99;

    // Above the most pairs that there can be, so that liking weighs more than few pairs.
    private static final int PAIR_SCALE = 16;

    private static final int[] USUAL_RULE = {'l', '*', '2', '-', 't', '+', 's', '*', '3'};

    private final Text text = new Text();
    private final Town town = new Town();
    private final Town maybe = new Town();
    private final Ways ways = new Ways();
    private final Ballot ballot = new Ballot();
    private final Ballot otherBallot = new Ballot();
    private final Past past = new Past();
    private final Town[] kept = new Town[MOST_KEPT];
    private final boolean[] isKept = new boolean[MOST_KEPT];
    private final Notices notices = new Notices();
    private final Told told = new Told();
    private final int[] tally = new int[MOST_PEOPLE];
    private final int[] bySet = new int[1 << MOST_PEOPLE];
    private final Draws draws = new Draws();
    private Rule spareRule = new Rule();

    public VotedUnseen() {
        for (int i = 0; i < MOST_KEPT; i++) {
            kept[i] = new Town();
        }
    }

    // ---- people, the walk

    public int sign(int v) {
        if (text.length + 4 > LONGEST_TEXT) {
            return NONE;
        }
        for (int shift = 24; shift >= 0; shift -= 8) {
            text.add(v >>> shift & 255);
        }
        return text.length;
    }

    public boolean end(int n) {
        if (n < 0 || n > text.length) {
            return false;
        }
        text.length = n;
        return true;
    }

    public int people() {
        int length = text.takeLength();
        if (length == 0) {
            return 0;
        }
        int wrong = text.wrongInPeople(length, MOST_PEOPLE - town.size);
        if (wrong != FINE) {
            return -1 - wrong;
        }
        int lines = (length + 1) / LINE;
        for (int line = 0; line < lines; line++) {
            settle(line * LINE);
        }
        past.clear();
        return lines;
    }

    private void settle(int at) {
        int person = town.size;
        if (person >= MOST_PEOPLE) {
            return;
        }
        for (int other = 0; other < MOST_PEOPLE; other++) {
            ways.liking[person * MOST_PEOPLE + other] = text.digitAt(at + other);
        }
        town.settle(text.digitAt(at + MOST_PEOPLE));
    }

    public int walk() {
        int length = text.takeLength();
        int wrong = text.wrongInWalk(length);
        if (wrong != FINE) {
            return -1 - wrong;
        }
        for (int i = 0; i < length && i < LONGEST_WALK; i++) {
            ways.walk[i] = text.digitAt(i);
        }
        ways.walkLength = length;
        return length;
    }

    public int rule() {
        int wrong = readSpareRule();
        if (wrong != FINE) {
            return -1 - wrong;
        }
        Rule old = ways.rule;
        ways.rule = spareRule;
        spareRule = old;
        return 0;
    }

    private int readSpareRule() {
        int length = text.takeLength();
        return length == 0
            ? spareRule.read(USUAL_RULE, USUAL_RULE.length)
            : spareRule.read(text.signs, length);
    }

    public int person(int person, int what) throws NoSuchElementException {
        if (!town.has(person)) {
            throw new NoSuchElementException("no such person");
        }
        switch (what) {
            case 0:
                return town.bread[person];
            case 1:
                return town.secrets[person];
            case 2:
                return town.times[person];
            case 3:
                return town.away >> person & 1;
            case 4:
                ballot.hold(town, ways, ways.rule);
                return ballot.choice[person];
            case 5:
                return town.debtsOf(person);
            case 6:
                return town.debtsTo(person);
            default:
                throw new NoSuchElementException("no such number of a person");
        }
    }

    public int between(int one, int other, int what) throws NoSuchElementException {
        if (!town.hasTwo(one, other)) {
            throw new NoSuchElementException("no such two");
        }
        int place = one * MOST_PEOPLE + other;
        switch (what) {
            case 0:
                return ways.liking[place];
            case 1:
                return ways.rule.gladness(town, ways, one, other);
            case 2:
                return town.debts[place];
            default:
                throw new NoSuchElementException("no such number between two");
        }
    }

    public int sheet(int kind, int n, int f, int step) {
        if (kind < 0 || kind > 3 || n > MOST_PEOPLE) {
            return NONE;
        }
        if (kind != 3 && n < 0) {
            return -2;
        }
        int entries = kind == 3 ? 0 : n;
        for (int person = 0; person < town.size; person++) {
            town.bread[person] = person < entries ? sheetBread(kind, f + person * step) : 0;
        }
        return kind == 3 ? -3 : town.allBread();
    }

    private static int sheetBread(int kind, int entry) {
        int told = entry;
        if (kind == 0) {
            told = (byte) entry;
        } else if (kind == 1) {
            told = (short) entry;
        }
        return Math.max(0, Math.min(MOST_BREAD, told));
    }

    // ---- months

    public int months(int n) {
        if (n < 0 || n > 60) {
            return NONE;
        }
        past.prepare(town);
        clearTally();
        for (int i = 0; i < n; i++) {
            town.passMonth(ways, ballot);
            if (town.has(town.unseen)) {
                tally[town.unseen]++;
            }
        }
        past.commit();
        tellByPeople(tally);
        return orNobody(town.unseen);
    }

    public int tells(int one, int other) {
        past.prepare(town);
        return commitIfDone(town.tell(one, other));
    }

    public int gives(int one, int other, int n) {
        past.prepare(town);
        return commitIfDone(town.give(one, other, n));
    }

    public int owes(int one, int other, int n) {
        past.prepare(town);
        return commitIfDone(town.borrow(one, other, n));
    }

    public int goes(int person) {
        past.prepare(town);
        return commitIfDone(town.goOrCome(person));
    }

    private int commitIfDone(int answer) {
        if (answer >= 0) {
            past.commit();
        }
        return answer;
    }

    public int year() {
        int length = text.takeLength();
        int wrong = text.wrongInYear(length);
        if (wrong != FINE) {
            return -1 - wrong;
        }
        past.prepare(town);
        int done = 0;
        boolean refused = false;
        for (int at = 0; at < length && !refused; at += 1 + Text.digitsBehind(text.signs[at])) {
            refused = doAct(at) < 0;
            done += refused ? 0 : 1;
        }
        if (done > 0) {
            past.commit();
        }
        told.clear();
        told.add(refused ? 1 : 0);
        told.add(town.month);
        return done;
    }

    private int doAct(int at) {
        int first = text.digitAt(at + 1);
        int second = text.digitAt(at + 2);
        int third = text.digitAt(at + 3);
        switch (text.signs[at]) {
            case 'm':
                town.passMonths(first, ways, ballot);
                return 0;
            case 't':
                return town.tell(first, second);
            case 'g':
                return town.give(first, second, third);
            case 'o':
                return town.borrow(first, second, third);
            case 'p':
                return town.borrow(first, second, -third);
            default:
                return town.goOrCome(first);
        }
    }

    public int undo() {
        return past.bringBack(town);
    }

    // ---- votes

    public int vote() {
        ballot.hold(town, ways, ways.rule);
        tellByPeople(ballot.got);
        return orNobody(ballot.chosen);
    }

    public int ahead(int n) {
        if (n < 0 || n > FARTHEST) {
            return NONE;
        }
        maybe.copyFrom(town);
        maybe.passMonths(n, ways, ballot);
        told.clear();
        told.add(maybe.allBread());
        told.add(maybe.allKnown());
        return orNobody(maybe.unseen);
    }

    public int when(int person) {
        if (!town.has(person)) {
            return NONE;
        }
        maybe.copyFrom(town);
        for (int month = 1; month <= FARTHEST; month++) {
            maybe.passMonth(ways, ballot);
            if (maybe.unseen == person) {
                told.tellOne(Integer.bitCount(maybe.secrets[person]));
                return month;
            }
        }
        return NOT_SO;
    }

    public int learns(int person) {
        if (!town.has(person)) {
            return NONE;
        }
        maybe.copyFrom(town);
        for (int month = 0; month <= FARTHEST; month++) {
            if (maybe.secrets[person] == maybe.everybody()) {
                told.tellOne(maybe.times[person]);
                return month;
            }
            maybe.passMonth(ways, ballot);
        }
        return NOT_SO;
    }

    public int without(int person) {
        if (!town.has(person)) {
            return NONE;
        }
        maybe.copyFrom(town);
        maybe.away |= 1 << person;
        ballot.hold(maybe, ways, ways.rule);
        tellByPeople(ballot.got);
        return orNobody(ballot.chosen);
    }

    public int swings(int person) {
        if (!town.has(person)) {
            return NONE;
        }
        if ((town.electable() >> person & 1) == 0) {
            return NOT_SO;
        }
        ballot.hold(town, ways, ways.rule);
        int voters = ballot.voters() & ~(1 << person);
        int best = NONE;
        for (int set = 0; set <= voters; set++) {
            if (isFewer(set, best, voters) && ballot.chosenIf(set, person) == person) {
                best = set;
            }
        }
        return tellFewest(best);
    }

    public int holds() {
        ballot.hold(town, ways, ways.rule);
        int voters = ballot.voters();
        int best = NONE;
        for (int set = 0; set <= voters; set++) {
            if (isFewer(set, best, voters) && holdsTown(set)) {
                best = set;
            }
        }
        return tellFewest(best);
    }

    private boolean holdsTown(int set) {
        int others = town.electable() & ~set;
        for (int one = 0; one < town.size; one++) {
            if ((others >> one & 1) != 0 && ballot.chosenIf(set, one) != one) {
                return false;
            }
        }
        return others != 0;
    }

    private static boolean isFewer(int set, int best, int allowed) {
        return (set & ~allowed) == 0
            && (best == NONE || Integer.bitCount(set) < Integer.bitCount(best));
    }

    private int tellFewest(int set) {
        if (set == NONE) {
            return NOT_SO;
        }
        told.tellOne(set);
        return Integer.bitCount(set);
    }

    public int duels() {
        clearTally();
        int electable = town.electable();
        for (int one = 0; one < town.size; one++) {
            for (int other = one + 1; other < town.size; other++) {
                if ((electable >> one & electable >> other & 1) != 0) {
                    countDuel(one, other);
                }
            }
        }
        tellByPeople(tally);
        int duelsOfEach = Integer.bitCount(electable) - 1;
        for (int person = 0; person < town.size; person++) {
            if (tally[person] > 0 && tally[person] == duelsOfEach) {
                return person;
            }
        }
        return NOT_SO;
    }

    private void countDuel(int one, int other) {
        int lead = 0;
        for (int voter = 0; voter < town.size; voter++) {
            if (voter != one && voter != other && town.isHere(voter)) {
                int gladOfOne = ways.rule.gladness(town, ways, voter, one);
                int gladOfOther = ways.rule.gladness(town, ways, voter, other);
                lead += Integer.compare(gladOfOne, gladOfOther);
            }
        }
        if (lead > 0) {
            tally[one]++;
        } else if (lead < 0) {
            tally[other]++;
        }
    }

    // ---- ears

    public int hears(int person) {
        if (!town.has(person)) {
            return NONE;
        }
        int heard = town.heardBy(person, ways);
        told.tellOne(Integer.bitCount(heard) - Integer.bitCount(town.secrets[person]));
        return heard;
    }

    public int ears() {
        int best = NONE;
        int most = NONE;
        for (int person = 0; person < town.size; person++) {
            int heard = town.heardBy(person, ways);
            int more = Integer.bitCount(heard) - Integer.bitCount(town.secrets[person]);
            if (more > most) {
                best = person;
                most = more;
            }
        }
        if (best == NONE) {
            return NOBODY;
        }
        told.tellOne(most);
        return best;
    }

    public int stands(int person, int secrets) {
        if (!town.has(person) || (secrets & ~town.everybody()) != 0) {
            return NONE;
        }
        int tables = town.here() & ~(1 << person);
        int best = NONE;
        for (int set = 0; set <= tables; set++) {
            int known = town.secrets[person] | town.knownBy(set);
            if (isFewer(set, best, tables) && (secrets & ~known) == 0) {
                best = set;
            }
        }
        return tellFewest(best);
    }

    public int gossip() {
        int best = NONE;
        int most = 0;
        for (int secret = 0; secret < town.size; secret++) {
            int knowers = Integer.bitCount(town.knowersOf(secret));
            if (knowers > most) {
                best = secret;
                most = knowers;
            }
        }
        if (best == NONE) {
            return NOBODY;
        }
        told.clear();
        told.add(most);
        told.add(town.knowersOf(best));
        return best;
    }

    // ---- debts

    public int later(int one, int other, int n) {
        if (!town.hasTwo(one, other) || n < 0 || n > 60) {
            return NONE;
        }
        int place = one * MOST_PEOPLE + other;
        maybe.copyFrom(town);
        int still = 0;
        for (int i = 0; i < n; i++) {
            int before = maybe.debts[place];
            maybe.passMonth(ways, ballot);
            still += maybe.debts[place] == before ? 1 : 0;
        }
        told.tellOne(still);
        return maybe.debts[place];
    }

    public int net(int person) {
        if (!town.has(person)) {
            return NONE;
        }
        int owed = town.debtsTo(person);
        int owing = town.debtsOf(person);
        told.clear();
        told.add(owed);
        told.add(owing);
        return 10000 + owed - owing;
    }

    public int chain() {
        int longest = findChainStarts();
        told.clear();
        int used = 0;
        int next = town.everybody();
        for (int left = longest; left > 0; left--) {
            int one = firstOfChain(next & ~used, used, left);
            if (one == NONE) {
                break;
            }
            told.add(one);
            used |= 1 << one;
            next = town.creditorsOf(one);
        }
        return longest;
    }

    /** Notes by each set who may begin a chain of just that set; answers the longest. */
    private int findChainStarts() {
        int longest = 0;
        bySet[0] = 0;
        for (int set = 1; set <= town.everybody(); set++) {
            int starts = 0;
            for (int one = 0; one < town.size; one++) {
                int rest = set & ~(1 << one);
                if (rest != set && (rest == 0 || (town.creditorsOf(one) & bySet[rest]) != 0)) {
                    starts |= 1 << one;
                }
            }
            bySet[set] = starts;
            if (starts != 0) {
                longest = Math.max(longest, Integer.bitCount(set));
            }
        }
        return longest;
    }

    private int firstOfChain(int allowed, int used, int length) {
        for (int one = 0; one < town.size; one++) {
            if ((allowed >> one & 1) != 0 && beginsChain(one, used, length)) {
                return one;
            }
        }
        return NONE;
    }

    private boolean beginsChain(int one, int used, int length) {
        for (int set = 1; set <= town.everybody(); set++) {
            if ((set & used) == 0 && Integer.bitCount(set) == length && (bySet[set] >> one & 1) != 0) {
                return true;
            }
        }
        return false;
    }

    // ---- pairs, weights

    public int pairs() {
        weighMatches();
        told.clear();
        int best = bySet[town.here()];
        int left = town.here();
        for (int i = 0; i < MOST_PEOPLE / 2 && bySet[left] > 0; i++) {
            left = tellFirstPair(left);
        }
        return (best + PAIR_SCALE - 1) / PAIR_SCALE;
    }

    /** Notes by each set the most liking of its pairs, scaled, less the fewest pairs for it. */
    private void weighMatches() {
        bySet[0] = 0;
        for (int set = 1; set <= town.everybody(); set++) {
            int lowest = Integer.numberOfTrailingZeros(set);
            int rest = set & ~(1 << lowest);
            int best = bySet[rest];
            for (int other = lowest + 1; other < town.size; other++) {
                if ((rest >> other & 1) != 0) {
                    best = Math.max(best, pairWorth(lowest, other) + bySet[rest & ~(1 << other)]);
                }
            }
            bySet[set] = best;
        }
    }

    private int pairWorth(int one, int other) {
        int liking = ways.liking[one * MOST_PEOPLE + other] + ways.liking[other * MOST_PEOPLE + one];
        return liking * PAIR_SCALE - 1;
    }

    private int tellFirstPair(int set) {
        for (int one = 0; one < town.size; one++) {
            int above = (set >> one & 1) == 0 ? 0 : set & ~((2 << one) - 1);
            for (int other = one + 1; other < town.size; other++) {
                int rest = above & ~(1 << other);
                if (rest != above && pairWorth(one, other) + bySet[rest] == bySet[set]) {
                    told.add(one);
                    told.add(other);
                    return rest;
                }
            }
        }
        return 0;
    }

    public int power(int person) {
        if (!town.has(person)) {
            return NONE;
        }
        clearTally();
        for (int set = 0; set <= town.everybody(); set++) {
            countTurners(set);
        }
        int sum = 0;
        for (int one = 0; one < town.size; one++) {
            sum += tally[one];
        }
        told.tellFraction(tally[person], sum);
        return tally[person];
    }

    private void countTurners(int set) {
        int all = town.allBread();
        int ofSet = 0;
        for (int one = 0; one < town.size; one++) {
            ofSet += (set >> one & 1) != 0 ? town.bread[one] : 0;
        }
        for (int one = 0; one < town.size; one++) {
            boolean outside = (set >> one & 1) == 0;
            if (outside && 2 * ofSet <= all && 2 * (ofSet + town.bread[one]) > all) {
                tally[one]++;
            }
        }
    }

    // ---- chances

    public int likely(int person, int p) {
        if (!town.has(person) || p < 0 || p > 10) {
            return NONE;
        }
        ballot.hold(town, ways, ways.rule);
        int voters = Integer.bitCount(ballot.voters());
        int free = Integer.bitCount(ballot.voters() & ~(1 << person));
        long good = 0;
        for (int votes = 0; votes <= free; votes++) {
            if (2 * votes > voters) {
                good += choose(free, votes) * raise(p, votes) * raise(10 - p, free - votes);
            }
        }
        told.tellFraction(good, raise(10, free));
        return 0;
    }

    private static long choose(int of, int some) {
        long sets = 1;
        for (int i = 1; i <= some; i++) {
            sets = sets * (of - i + 1) / i;
        }
        return sets;
    }

    private static long raise(int base, int times) {
        long product = 1;
        for (int i = 0; i < times; i++) {
            product *= base;
        }
        return product;
    }

    public int spared(int person, int n) {
        if (!town.has(person) || n < 1 || n > 8) {
            return NONE;
        }
        if (!town.isHere(person)) {
            told.tellFraction(1, 1);
            return 0;
        }
        int here = Integer.bitCount(town.here());
        if (here < 2) {
            return NOT_SO;
        }
        // In every month but perhaps the first the one drawn last can't be drawn.
        long upper = raise(here - 2, n - 1);
        long lower = raise(here - 1, n - 1);
        if (town.unseen == NONE) {
            upper *= here - 1;
            lower *= here;
        } else if (town.unseen != person) {
            upper *= here - 2;
            lower *= here - 1;
        }
        told.tellFraction(upper, lower);
        return 0;
    }

    // ---- who set out a plate

    public int noticed(int what, int v) {
        return notices.add(what, v);
    }

    public int forget() {
        int before = notices.length;
        notices.length = 0;
        return before;
    }

    public int fits() {
        int fitting = findFitting();
        told.tellOne(Integer.bitCount(fitting));
        return fitting;
    }

    private int findFitting() {
        ballot.hold(town, ways, ways.rule);
        int fitting = 0;
        for (int person = 0; person < town.size; person++) {
            if (notices.allFit(town, ballot, person)) {
                fitting |= 1 << person;
            }
        }
        return fitting;
    }

    public int ask() {
        int fitting = findFitting();
        if (fitting == 0) {
            return NOT_SO;
        }
        int best = 0;
        int fewest = MOST_PEOPLE + 1;
        for (int secret = 0; secret < MOST_PEOPLE; secret++) {
            int knowers = town.knowersOf(secret);
            int left = Math.max(Integer.bitCount(fitting & knowers), Integer.bitCount(fitting & ~knowers));
            if (left < fewest) {
                best = secret;
                fewest = left;
            }
        }
        told.tellOne(fewest);
        return best;
    }

    // ---- laws, rests, years

    public int law() {
        int wrong = readSpareRule();
        if (wrong != FINE) {
            return -10000 - wrong;
        }
        ballot.hold(town, ways, ways.rule);
        otherBallot.hold(town, ways, spareRule);
        int changed = 0;
        for (int voter = 0; voter < town.size; voter++) {
            if (ballot.choice[voter] != otherBallot.choice[voter]) {
                changed |= 1 << voter;
            }
        }
        told.clear();
        told.add(changed);
        told.add(orNobody(otherBallot.chosen));
        return Integer.bitCount(changed);
    }

    public int rests(int v) {
        if (v < 0 || v > 20) {
            return NONE;
        }
        told.clear();
        int resting = 0;
        for (int x = 0; x <= MOST_CANVASSED; x++) {
            for (int y = 0; y <= MOST_CANVASSED; y++) {
                if (isBestAgainst(x, y, v) && isBestAgainst(y, x, v)) {
                    if (resting == 0) {
                        told.add(x);
                        told.add(y);
                    }
                    resting++;
                }
            }
        }
        return resting;
    }

    private static boolean isBestAgainst(int own, int others, int v) {
        for (int x = 0; x <= MOST_CANVASSED; x++) {
            if (canvassGain(x, others, v) > canvassGain(own, others, v)) {
                return false;
            }
        }
        return true;
    }

    private static int canvassGain(int own, int others, int v) {
        int gain = 0;
        if (own > others) {
            gain = v;
        } else if (own == others) {
            gain = v / 2;
        }
        return gain - own - 2 * Math.max(0, own - 5);
    }

    public int years(int seed, int n) {
        if (n < 1 || n > 60) {
            return NONE;
        }
        maybe.copyFrom(town);
        draws.state = seed;
        int chosen = 0;
        for (int i = 0; i < n; i++) {
            int kind = draws.drawOf(4);
            if (kind < 2) {
                maybe.passMonth(ways, ballot);
                chosen += maybe.unseen == NONE ? 0 : 1;
            } else if (maybe.size > 0) {
                drawAct(kind);
            }
        }
        told.clear();
        told.add(maybe.unseen);
        told.add(maybe.allKnown());
        return chosen;
    }

    private void drawAct(int kind) {
        int one = draws.drawOf(maybe.size);
        if (kind == 2) {
            maybe.tell(one, draws.drawOf(maybe.size));
        } else {
            maybe.goOrCome(one);
        }
    }

    // ---- kept

    public boolean keep(int i) {
        if (i < 0 || i >= MOST_KEPT) {
            return false;
        }
        kept[i].copyFrom(town);
        isKept[i] = true;
        return true;
    }

    public boolean again(int i) {
        if (i < 0 || i >= MOST_KEPT || !isKept[i] || kept[i].size != town.size) {
            return false;
        }
        town.copyFrom(kept[i]);
        past.clear();
        return true;
    }

    public int count(int what) {
        switch (what) {
            case 0:
                return town.size;
            case 1:
                return town.month;
            case 2:
                return town.unseen;
            case 3:
                return town.here();
            case 4:
                return town.allBread();
            case 5:
                return town.allKnown();
            case 6:
                return town.allDebts();
            case 7:
                return ways.walkLength;
            case 8:
                return notices.length;
            case 9:
                return past.held;
            case 10:
                return told.length;
            case 11:
                return text.length;
            default:
                return -100;
        }
    }

    public long row(int i) throws NoSuchElementException {
        if (i < 0 || i >= told.length) {
            throw new NoSuchElementException("no such number of the row");
        }
        return told.numbers[i];
    }

    // ---- what many calls use

    private static int orNobody(int person) {
        return person == NONE ? NOBODY : person;
    }

    private void clearTally() {
        for (int i = 0; i < MOST_PEOPLE; i++) {
            tally[i] = 0;
        }
    }

    private void tellByPeople(int[] numbers) {
        told.clear();
        for (int person = 0; person < town.size; person++) {
            told.add(numbers[person]);
        }
    }

    private static boolean isDigit(int sign) {
        return sign >= '0' && sign <= '9';
    }

    /** THE TEXT. A call that reads it takes its length; the signs stay till others come. */
    private static final class Text {
        final int[] signs = new int[LONGEST_TEXT];
        int length;

        void add(int sign) {
            if (length < LONGEST_TEXT) {
                signs[length] = sign;
                length++;
            }
        }

        int takeLength() {
            int taken = length;
            length = 0;
            return taken;
        }

        int digitAt(int at) {
            return at >= 0 && at < LONGEST_TEXT ? signs[at] - '0' : 0;
        }

        int wrongInPeople(int taken, int room) {
            for (int at = 0; at < LONGEST_PEOPLE; at++) {
                int column = at % LINE;
                boolean between = column == LINE - 1;
                if (at >= taken) {
                    return between ? FINE : at;
                }
                if (column == 0 && at / LINE >= room) {
                    return at;
                }
                if (between ? signs[at] != ';' : !isDigit(signs[at])) {
                    return at;
                }
            }
            return taken == LONGEST_PEOPLE ? FINE : LONGEST_PEOPLE;
        }

        int wrongInWalk(int taken) {
            for (int at = 0; at < LONGEST_WALK; at++) {
                if (at >= taken) {
                    return at == 0 ? 0 : FINE;
                }
                if (signs[at] < '1' || signs[at] > '7') {
                    return at;
                }
            }
            return taken == LONGEST_WALK ? FINE : LONGEST_WALK;
        }

        int wrongInYear(int taken) {
            int left = 0;
            boolean hasAmount = false;
            for (int at = 0; at < LONGEST_YEAR; at++) {
                if (at >= taken) {
                    return left == 0 ? FINE : at;
                }
                int sign = signs[at];
                if (left == 0) {
                    left = digitsBehind(sign);
                    hasAmount = left == 3;
                    if (left == 0) {
                        return at;
                    }
                } else {
                    left--;
                    if (!isDigit(sign) || hasAmount && left == 0 && sign == '0') {
                        return at;
                    }
                }
            }
            return taken == LONGEST_YEAR && left == 0 ? FINE : LONGEST_YEAR;
        }

        /** How many digits an act of a year has; 0: there is no such act. */
        static int digitsBehind(int act) {
            switch (act) {
                case 'm':
                case 'a':
                    return 1;
                case 't':
                    return 2;
                case 'g':
                case 'o':
                case 'p':
                    return 3;
                default:
                    return 0;
            }
        }
    }

    /** What months don't change: whom people like, where the unseen goes, how they choose. */
    private static final class Ways {
        final int[] liking = new int[MOST_PEOPLE * MOST_PEOPLE];
        final int[] walk = new int[LONGEST_WALK];
        int walkLength = 1;
        Rule rule = new Rule();

        Ways() {
            walk[0] = 1;
            rule.read(USUAL_RULE, USUAL_RULE.length);
        }
    }

    /** A rule, read once into code in which an operator comes behind what it joins. */
    private static final class Rule {
        // Numbers stand in the code as they are, all other things as their sign below 0.
        private static final int NEGATE = -'~';
        private static final int END = -1;

        private final int[] code = new int[LONGEST_RULE];
        private final int[] stack = new int[LONGEST_RULE];
        private int codeLength;
        private int[] signs = USUAL_RULE;
        private int limit;
        private int at;

        /** Where the first sign is that can't stand, or FINE. */
        int read(int[] newSigns, int length) {
            signs = newSigns;
            limit = Math.min(Math.min(length, LONGEST_RULE), newSigns.length);
            at = 0;
            codeLength = 0;
            return readExpression(0) && at == length ? FINE : at;
        }

        private int look() {
            return at < limit ? signs[at] : END;
        }

        private void put(int item) {
            if (codeLength < LONGEST_RULE) {
                code[codeLength] = item;
                codeLength++;
            }
        }

        private boolean readExpression(int depth) {
            if (!readSum(depth)) {
                return false;
            }
            int sign = look();
            if (sign != '<' && sign != '>' && sign != '=') {
                return true;
            }
            at++;
            if (!readSum(depth)) {
                return false;
            }
            put(-sign);
            return true;
        }

        private boolean readSum(int depth) {
            if (!readProduct(depth)) {
                return false;
            }
            for (int i = 0; i < LONGEST_RULE; i++) {
                int sign = look();
                if (sign != '+' && sign != '-') {
                    return true;
                }
                at++;
                if (!readProduct(depth)) {
                    return false;
                }
                put(-sign);
            }
            return true;
        }

        private boolean readProduct(int depth) {
            if (!readNegated(depth)) {
                return false;
            }
            for (int i = 0; i < LONGEST_RULE; i++) {
                int sign = look();
                if (sign != '*' && sign != '/') {
                    return true;
                }
                at++;
                if (!readNegated(depth)) {
                    return false;
                }
                put(-sign);
            }
            return true;
        }

        private boolean readNegated(int depth) {
            boolean odd = false;
            for (int i = 0; i < LONGEST_RULE && look() == '-'; i++) {
                odd = !odd;
                at++;
            }
            if (!readThing(depth)) {
                return false;
            }
            if (odd) {
                put(NEGATE);
            }
            return true;
        }

        private boolean readThing(int depth) {
            int sign = look();
            if (sign == '(') {
                return readInside(depth + 1);
            }
            if (isDigit(sign)) {
                readNumber();
                return true;
            }
            if (!isThing(sign)) {
                return false;
            }
            at++;
            put(-sign);
            return true;
        }

        private boolean readInside(int depth) {
            if (depth > DEEPEST) {
                return false;
            }
            at++;
            if (!readExpression(depth) || look() != ')') {
                return false;
            }
            at++;
            return true;
        }

        private void readNumber() {
            int number = 0;
            for (int i = 0; i < 3 && isDigit(look()); i++) {
                number = number * 10 + look() - '0';
                at++;
            }
            put(number);
        }

        private static boolean isThing(int sign) {
            return sign == 'l' || sign == 't' || sign == 's' || sign == 'b' || sign == 'd' || sign == 'm';
        }

        int gladness(Town town, Ways ways, int voter, int other) {
            int top = 0;
            for (int i = 0; i < codeLength; i++) {
                int item = code[i];
                if (item >= 0 && top < LONGEST_RULE) {
                    stack[top] = item;
                    top++;
                } else if (isThing(-item) && top < LONGEST_RULE) {
                    stack[top] = thing(-item, town, ways, voter, other);
                    top++;
                } else if (item == NEGATE && top > 0) {
                    stack[top - 1] = -stack[top - 1];
                } else if (top > 1) {
                    top--;
                    stack[top - 1] = join(-item, stack[top - 1], stack[top]);
                }
            }
            return stack[0];
        }

        private static int thing(int sign, Town town, Ways ways, int voter, int other) {
            int place = voter * MOST_PEOPLE + other;
            switch (sign) {
                case 'l':
                    return ways.liking[place];
                case 't':
                    return town.times[other];
                case 's':
                    return town.secrets[other] >> voter & 1;
                case 'b':
                    return town.bread[other];
                case 'd':
                    return town.debts[place];
                default:
                    return town.month % 12;
            }
        }

        private static int join(int sign, int left, int right) {
            switch (sign) {
                case '+':
                    return left + right;
                case '-':
                    return left - right;
                case '*':
                    return left * right;
                case '/':
                    return right == 0 ? 0 : left / right;
                case '<':
                    return left < right ? 1 : 0;
                case '>':
                    return left > right ? 1 : 0;
                default:
                    return left == right ? 1 : 0;
            }
        }
    }

    /** All that undo() and again() bring back; numbers of those who aren't there are 0. */
    private static final class Town {
        final int[] bread = new int[MOST_PEOPLE];
        final int[] secrets = new int[MOST_PEOPLE];
        final int[] times = new int[MOST_PEOPLE];
        final int[] debts = new int[MOST_PEOPLE * MOST_PEOPLE];
        int size;
        int away;
        int month;
        int unseen = NONE;

        void copyFrom(Town other) {
            System.arraycopy(other.bread, 0, bread, 0, MOST_PEOPLE);
            System.arraycopy(other.secrets, 0, secrets, 0, MOST_PEOPLE);
            System.arraycopy(other.times, 0, times, 0, MOST_PEOPLE);
            System.arraycopy(other.debts, 0, debts, 0, MOST_PEOPLE * MOST_PEOPLE);
            size = other.size;
            away = other.away;
            month = other.month;
            unseen = other.unseen;
        }

        void settle(int itsBread) {
            if (size < MOST_PEOPLE) {
                bread[size] = itsBread;
                secrets[size] = 1 << size;
                size++;
            }
        }

        boolean has(int person) {
            return person >= 0 && person < size;
        }

        boolean hasTwo(int one, int other) {
            return has(one) && has(other) && one != other;
        }

        int everybody() {
            return (1 << size) - 1;
        }

        int here() {
            return (1 << size) - 1 & ~away;
        }

        boolean isHere(int person) {
            return has(person) && (away >> person & 1) == 0;
        }

        /** Who can be voted for. */
        int electable() {
            return unseen == NONE ? here() : here() & ~(1 << unseen);
        }

        int allBread() {
            int sum = 0;
            for (int person = 0; person < size; person++) {
                sum += bread[person];
            }
            return sum;
        }

        int allKnown() {
            int sum = 0;
            for (int person = 0; person < size; person++) {
                sum += Integer.bitCount(secrets[person]);
            }
            return sum;
        }

        int allDebts() {
            int sum = 0;
            for (int person = 0; person < size; person++) {
                sum += debtsOf(person);
            }
            return sum;
        }

        int debtsOf(int person) {
            int sum = 0;
            for (int other = 0; other < size; other++) {
                sum += debts[person * MOST_PEOPLE + other];
            }
            return sum;
        }

        int debtsTo(int person) {
            int sum = 0;
            for (int other = 0; other < size; other++) {
                sum += debts[other * MOST_PEOPLE + person];
            }
            return sum;
        }

        int creditorsOf(int person) {
            int creditors = 0;
            for (int other = 0; other < size; other++) {
                if (debts[person * MOST_PEOPLE + other] > 0) {
                    creditors |= 1 << other;
                }
            }
            return creditors;
        }

        int knowersOf(int secret) {
            int knowers = 0;
            for (int person = 0; person < size; person++) {
                knowers |= (secrets[person] >> secret & 1) << person;
            }
            return knowers;
        }

        int knownBy(int set) {
            int known = 0;
            for (int person = 0; person < size; person++) {
                known |= (set >> person & 1) != 0 ? secrets[person] : 0;
            }
            return known;
        }

        /** To whom one comes by a step of the walk; NONE where nothing happens. */
        private int tableAt(int walker, int step) {
            if (size == 0) {
                return NONE;
            }
            int table = (walker + step) % size;
            return table == walker || !isHere(table) ? NONE : table;
        }

        int heardBy(int person, Ways ways) {
            int known = secrets[person];
            for (int i = 0; i < ways.walkLength; i++) {
                int table = tableAt(person, ways.walk[i]);
                known |= table == NONE ? 0 : secrets[table];
            }
            return known;
        }

        int tell(int one, int other) {
            if (!hasTwo(one, other)) {
                return NONE;
            }
            if ((secrets[other] >> one & 1) != 0) {
                return -2;
            }
            secrets[other] |= 1 << one;
            return secrets[other];
        }

        int give(int one, int other, int n) {
            if (!hasTwo(one, other) || n < 1 || n > MOST_BREAD) {
                return NONE;
            }
            if (bread[one] < n) {
                return TOO_LITTLE;
            }
            if (bread[other] + n > MOST_BREAD) {
                return TOO_MUCH;
            }
            bread[one] -= n;
            bread[other] += n;
            return bread[other];
        }

        int borrow(int one, int other, int n) {
            if (!hasTwo(one, other) || n == 0 || n < -MOST_DEBT || n > MOST_DEBT) {
                return NONE;
            }
            if (other == unseen) {
                return -4;
            }
            int place = one * MOST_PEOPLE + other;
            int debt = debts[place] + n;
            if (debt < 0) {
                return TOO_LITTLE;
            }
            if (debt > MOST_DEBT) {
                return TOO_MUCH;
            }
            debts[place] = debt;
            return debt;
        }

        int goOrCome(int person) {
            if (!has(person)) {
                return NONE;
            }
            if (person == unseen) {
                return -2;
            }
            away ^= 1 << person;
            return Integer.bitCount(here());
        }

        void passMonths(int n, Ways ways, Ballot ballot) {
            for (int i = 0; i < n; i++) {
                passMonth(ways, ballot);
            }
        }

        void passMonth(Ways ways, Ballot ballot) {
            ballot.hold(this, ways, ways.rule);
            unseen = ballot.chosen;
            if (has(unseen)) {
                times[unseen] = Math.min(MOST_TIMES, times[unseen] + 1);
                goAbout(ways);
            }
            bake();
            raiseDebts();
            month++;
        }

        private void goAbout(Ways ways) {
            for (int i = 0; i < ways.walkLength; i++) {
                int table = tableAt(unseen, ways.walk[i]);
                if (table != NONE) {
                    secrets[unseen] |= secrets[table];
                    if (bread[table] > 0 && bread[unseen] < MOST_BREAD) {
                        bread[table]--;
                        bread[unseen]++;
                    }
                }
            }
        }

        private void bake() {
            for (int person = 0; person < size; person++) {
                if (isHere(person) && person != unseen) {
                    bread[person] = Math.min(MOST_BREAD, bread[person] + 1);
                }
            }
        }

        private void raiseDebts() {
            for (int one = 0; one < size; one++) {
                for (int other = 0; other < size; other++) {
                    int debt = debts[one * MOST_PEOPLE + other];
                    if (debt > 0 && other != unseen) {
                        debts[one * MOST_PEOPLE + other] = Math.min(MOST_DEBT, debt + 1);
                    }
                }
            }
        }
    }

    /** A vote: for whom each votes, how many votes each got, who is chosen. */
    private static final class Ballot {
        final int[] choice = new int[MOST_PEOPLE];
        final int[] got = new int[MOST_PEOPLE];
        private final int[] wouldGet = new int[MOST_PEOPLE];
        private int size;
        int chosen = NONE;

        void hold(Town town, Ways ways, Rule rule) {
            size = town.size;
            for (int voter = 0; voter < size; voter++) {
                choice[voter] = choiceOf(voter, town, ways, rule);
            }
            chosen = countVotes(got, 0, 0);
        }

        private static int choiceOf(int voter, Town town, Ways ways, Rule rule) {
            int others = town.isHere(voter) ? town.electable() & ~(1 << voter) : 0;
            int best = NONE;
            int most = 0;
            for (int other = 0; other < town.size; other++) {
                if ((others >> other & 1) != 0) {
                    int glad = rule.gladness(town, ways, voter, other);
                    if (best == NONE || glad > most) {
                        best = other;
                        most = glad;
                    }
                }
            }
            return best;
        }

        /** Those who have somebody to vote for. */
        int voters() {
            int voters = 0;
            for (int voter = 0; voter < size; voter++) {
                voters |= choice[voter] == NONE ? 0 : 1 << voter;
            }
            return voters;
        }

        /** Who would be chosen if all of a set voted for one alone. */
        int chosenIf(int turned, int one) {
            return countVotes(wouldGet, turned, one);
        }

        private int countVotes(int[] votes, int turned, int one) {
            for (int person = 0; person < MOST_PEOPLE; person++) {
                votes[person] = 0;
            }
            for (int voter = 0; voter < size; voter++) {
                int vote = (turned >> voter & 1) != 0 ? one : choice[voter];
                if (vote >= 0 && vote < size) {
                    votes[vote]++;
                }
            }
            int best = NONE;
            int most = 0;
            for (int person = 0; person < size; person++) {
                if (votes[person] > most) {
                    best = person;
                    most = votes[person];
                }
            }
            return best;
        }
    }

    /** The towns as they were ahead of the latest acts, in a ring. */
    private static final class Past {
        // One place more than are kept, so that preparing never writes over one of them.
        private static final int PLACES = MOST_UNDONE + 1;

        private final Town[] towns = new Town[PLACES];
        private int next;
        int held;

        Past() {
            for (int i = 0; i < PLACES; i++) {
                towns[i] = new Town();
            }
        }

        void prepare(Town town) {
            towns[next].copyFrom(town);
        }

        void commit() {
            next = (next + 1) % PLACES;
            held = Math.min(MOST_UNDONE, held + 1);
        }

        int bringBack(Town town) {
            if (held == 0) {
                return NONE;
            }
            next = (next + MOST_UNDONE) % PLACES;
            held--;
            town.copyFrom(towns[next]);
            return held;
        }

        void clear() {
            held = 0;
        }
    }

    /** What was noticed of somebody. */
    private static final class Notices {
        private final int[] kinds = new int[MOST_NOTICED];
        private final int[] values = new int[MOST_NOTICED];
        int length;

        int add(int kind, int value) {
            if (value < 0 || value > greatest(kind) || length >= MOST_NOTICED) {
                return NONE;
            }
            kinds[length] = kind;
            values[length] = value;
            length++;
            return length;
        }

        private static int greatest(int kind) {
            switch (kind) {
                case 0:
                case 3:
                    return MOST_PEOPLE - 1;
                case 1:
                    return MOST_BREAD;
                case 2:
                    return MOST_TIMES;
                case 4:
                    return 1;
                default:
                    return NONE;
            }
        }

        boolean allFit(Town town, Ballot ballot, int person) {
            for (int i = 0; i < length; i++) {
                if (!fitsOne(i, town, ballot, person)) {
                    return false;
                }
            }
            return true;
        }

        private boolean fitsOne(int i, Town town, Ballot ballot, int person) {
            int value = values[i];
            switch (kinds[i]) {
                case 0:
                    return (town.secrets[person] >> value & 1) != 0;
                case 1:
                    return town.bread[person] >= value;
                case 2:
                    return town.times[person] >= value;
                case 3:
                    return ballot.choice[person] == value;
                default:
                    return (town.away >> person & 1) == value;
            }
        }
    }

    /** The ROW. */
    private static final class Told {
        final long[] numbers = new long[MOST_PEOPLE];
        int length;

        void clear() {
            length = 0;
        }

        void add(long number) {
            if (length < MOST_PEOPLE) {
                numbers[length] = number;
                length++;
            }
        }

        void tellOne(long number) {
            clear();
            add(number);
        }

        void tellFraction(long upper, long lower) {
            long divisor = commonDivisor(upper, lower);
            clear();
            add(divisor == 0 ? 0 : upper / divisor);
            add(divisor == 0 ? 1 : lower / divisor);
        }

        private static long commonDivisor(long one, long other) {
            long greater = one;
            long lesser = other;
            for (int i = 0; i < 200 && lesser != 0; i++) {
                long rest = greater % lesser;
                greater = lesser;
                lesser = rest;
            }
            return greater;
        }
    }

    /** Draws by a seed. */
    private static final class Draws {
        int state;

        int drawOf(int n) {
            state = state * 1103515245 + 12345;
            return n < 1 ? 0 : (state >>> 16) % n;
        }
    }
}
