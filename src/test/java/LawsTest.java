/** Promises 40 to 46: laws, rests, years, what is kept. */
final class LawsTest {
    private static final String FOUR = "059100005;900000006;910000007;900000008";

    public static void main(String[] args) {
        law();
        rests();
        years();
        yearsByHand();
        keep();
        count();
        row();
        Due.finish();
    }

    private static void law() {
        VotedUnseen x = Due.town(FOUR);
        // By bread: 3 has the most, 3 votes for 2: 0 and 1 and 2 and 3 all do otherwise.
        Due.is("by bread", Due.law(x, "b"), 4);
        Due.row("by bread", x, 15, 3);
        Due.is("the first", Due.law(x, "1"), 1);
        Due.row("the first", x, 1, 0);
        Due.is("as it is", Due.law(x, ""), 0);
        Due.row("as it is", x, 0, 0);
        Due.is("the rule stays", x.between(0, 1, 1), 10);
        Due.is("text is empty", x.count(11), 0);
        Due.rule(x, "b");
        Due.is("none is another one now", Due.law(x, ""), 4);
        Due.row("none is another one now", x, 15, 0);
        Due.is("the rule stays", x.between(0, 1, 1), 6);
        Due.is("can't stand", Due.law(x, "b+"), -10002);
        Due.is("can't stand at first", Due.law(x, ")"), -10000);
        Due.row("refused changes no row", x, 15, 0);
        Due.is("the rule stays", x.between(0, 1, 1), 6);
        x.goes(0);
        x.goes(1);
        x.goes(2);
        Due.is("nobody votes", Due.law(x, ""), 0);
        Due.row("nobody votes", x, 0, -2);
        String forty = "1+1+1+1+1+1+1+1+1+1+1+1+1+1+1+1+1+1+1+1";
        Due.is("forty one", Due.law(x, forty + "11"), -10040);
    }

    private static void rests() {
        VotedUnseen x = new VotedUnseen();
        Due.is("below", x.rests(-1), -1);
        Due.is("above", x.rests(21), -1);
        Due.is("0", x.rests(0), 1);
        Due.row("0", x, 0, 0);
        // v 1: half is 0; one vote gains 0, as none does: (0, 0), (0, 1), (1, 0)? against 1, 0 loses nothing,
        // and whoever has 1 against 0 gains 0, as with 0.
        Due.is("1", x.rests(1), 3);
        Due.row("1", x, 0, 0);
        // v 2: like ones have 1 less their votes: (0, 0): 1, by one vote 2 - 1 = 1; (1, 1): 0 each, 0 as well:
        // by two 2 - 2 = 0; (0, 1): 0 has 0, by 1: 0, by 2: 0; 1 has 1, by 0: 1.
        Due.is("2", x.rests(2), 4);
        Due.row("2", x, 0, 0);
        for (int v = 0; v <= 20; v++) {
            int[] want = restsByHand(v);
            Due.is("rests " + v, x.rests(v), want[0]);
            if (want[0] == 0) {
                Due.row("rests " + v, x);
            } else {
                Due.row("rests " + v, x, want[1], want[2]);
            }
        }
    }

    private static int[] restsByHand(int v) {
        int[] costs = {0, 1, 2, 3, 4, 5, 8, 11, 14, 17};
        int[][] worth = new int[10][10];
        for (int own = 0; own < 10; own++) {
            for (int other = 0; other < 10; other++) {
                worth[own][other] = (own > other ? v : own < other ? 0 : v >> 1) - costs[own];
            }
        }
        int[] found = {0, 0, 0};
        for (int x = 9; x >= 0; x--) {
            for (int y = 9; y >= 0; y--) {
                int bestX = worth[x][y];
                int bestY = worth[y][x];
                for (int other = 0; other < 10; other++) {
                    bestX = Math.max(bestX, worth[other][y]);
                    bestY = Math.max(bestY, worth[other][x]);
                }
                if (bestX == worth[x][y] && bestY == worth[y][x]) {
                    found = new int[] {found[0] + 1, x, y};
                }
            }
        }
        return found;
    }

    private static void years() {
        VotedUnseen x = Due.town(FOUR);
        x.tells(0, 1);
        Due.is("none", x.years(1, 0), -1);
        Due.is("below", x.years(1, -1), -1);
        Due.is("above", x.years(1, 61), -1);
        Due.row("no row", x);
        int[] seeds = {0, 1, 2, 7, 12345, -1, -98765, Integer.MIN_VALUE, Integer.MAX_VALUE};
        for (int seed : seeds) {
            for (int n = 1; n <= 60; n += 7) {
                sameAsDone(x, seed, n);
            }
        }
        Due.is("a question changes nothing", x.count(1), 0);
        Due.is("here", x.count(3), 15);
        Due.is("known", x.count(5), 5);
        Due.is("undone", x.count(9), 1);
    }

    /** The same acts, really done on a town of its own. */
    private static void sameAsDone(VotedUnseen x, int seed, int n) {
        VotedUnseen y = Due.town(FOUR);
        y.tells(0, 1);
        long r = seed;
        int chosen = 0;
        for (int i = 0; i < n; i++) {
            r = r * 1103515245L + 12345L & 0xFFFFFFFFL;
            int kind = (int) (r / 65536 % 4);
            if (kind < 2) {
                chosen += y.months(1) >= 0 ? 1 : 0;
                continue;
            }
            r = r * 1103515245L + 12345L & 0xFFFFFFFFL;
            int one = (int) (r / 65536 % 4);
            if (kind == 3) {
                y.goes(one);
                continue;
            }
            r = r * 1103515245L + 12345L & 0xFFFFFFFFL;
            y.tells(one, (int) (r / 65536 % 4));
        }
        Due.is("years " + seed + " " + n, x.years(seed, n), chosen);
        Due.row("years " + seed + " " + n, x, y.count(2), y.count(5));
    }

    private static void yearsByHand() {
        VotedUnseen none = new VotedUnseen();
        Due.is("no people", none.years(5, 60), 0);
        Due.row("no people", none, -1, 0);
        // Seed 0: R is 12345, by 65536: 0: a month.
        VotedUnseen x = Due.town(FOUR);
        Due.is("a month", x.years(0, 1), 1);
        Due.row("a month", x, 0, 5);
    }

    private static void keep() {
        VotedUnseen x = Due.town(FOUR);
        Due.is("nothing kept", x.again(0), false);
        Due.is("below", x.keep(-1), false);
        Due.is("above", x.keep(3), false);
        Due.is("again below", x.again(-1), false);
        Due.is("again above", x.again(3), false);
        Due.is("again most", x.again(Integer.MAX_VALUE), false);
        Due.is("kept", x.keep(0), true);
        x.tells(0, 1);
        x.owes(2, 1, 5);
        x.months(3);
        x.goes(3);
        int[] then = new int[7];
        for (int what = 0; what < 7; what++) {
            then[what] = x.count(what);
        }
        Due.is("kept, too", x.keep(2), true);
        Due.is("again", x.again(0), true);
        int[] first = {4, 0, -1, 15, 26, 4, 0};
        for (int what = 0; what < 7; what++) {
            Due.is("first, count " + what, x.count(what), first[what]);
        }
        Due.is("times", x.person(0, 2), 0);
        Due.is("not kept", x.again(1), false);
        Due.is("the other", x.again(2), true);
        for (int what = 0; what < 7; what++) {
            Due.is("other, count " + what, x.count(what), then[what]);
        }
        Due.is("again is kept", x.again(0), true);
        Due.is("and again", x.again(0), true);
        x.months(1);
        Due.is("over", x.keep(0), true);
        x.months(5);
        x.again(0);
        Due.is("over it", x.count(1), 1);
        Due.is("an empty text brings nobody", Due.people(x, ""), 0);
        Due.is("again", x.again(0), true);
        Due.people(x, "000000000");
        Due.is("people came since", x.again(0), false);
        Due.is("people came since, other", x.again(2), false);
        Due.is("five", x.count(0), 5);
        Due.is("kept anew", x.keep(2), true);
        Due.is("again anew", x.again(2), true);
        Due.is("people came since, still", x.again(0), false);
        VotedUnseen none = new VotedUnseen();
        Due.is("nobody kept", none.keep(1), true);
        none.months(2);
        Due.is("nobody again", none.again(1), true);
        Due.is("month", none.count(1), 0);
    }

    private static void count() {
        VotedUnseen x = Due.town(FOUR);
        x.months(1);
        x.goes(3);
        x.owes(0, 1, 4);
        x.owes(1, 2, 5);
        Due.walk(x, "1234567");
        x.noticed(0, 0);
        x.vote();
        x.sign(0);
        int[] want = {4, 1, 0, 7, 29, 5, 9, 7, 1, 4, 4, 4};
        for (int what = 0; what < want.length; what++) {
            Due.is("count " + what, x.count(what), want[what]);
        }
        int[] others = {-1, 12, Integer.MIN_VALUE, Integer.MAX_VALUE};
        for (int what : others) {
            Due.is("count " + what, x.count(what), -100);
        }
    }

    private static void row() {
        VotedUnseen x = Due.town(FOUR);
        Due.row("none", x);
        x.vote();
        Due.row("of four", x, 3, 0, 1, 0);
        x.gossip();
        Due.row("a shorter one", x, 1, 1);
        Due.missing("far", () -> x.row(Integer.MAX_VALUE));
        Due.missing("far below", () -> x.row(Integer.MIN_VALUE));
    }
}
