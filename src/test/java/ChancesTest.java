/** Promises 32 to 39: pairs, weights, chances, who set out a plate. */
final class ChancesTest {
    private static final String FOUR = "059100005;900000006;910000007;900000008";
    private static final int[] NO_SUCH = {-1, 4, 8, Integer.MIN_VALUE, Integer.MAX_VALUE};

    public static void main(String[] args) {
        pairs();
        power();
        likely();
        spared();
        noticed();
        fits();
        ask();
        Due.finish();
    }

    private static void pairs() {
        VotedUnseen x = new VotedUnseen();
        x.ahead(1);
        Due.is("no people", x.pairs(), 0);
        Due.row("no people", x);
        Due.people(x, FOUR);
        // 0 1: 14, 0 2: 18, 0 3: 10, 1 2: 1, 1 3: 0, 2 3: 0.
        Due.is("0 2", x.pairs(), 18);
        Due.row("not 1 3, which is worth nothing", x, 0, 2);
        x.goes(2);
        Due.is("without 2", x.pairs(), 14);
        Due.row("without 2", x, 0, 1);
        x.goes(1);
        x.goes(3);
        Due.is("0 alone", x.pairs(), 0);
        Due.row("0 alone", x);
        // Its own liking does not count: 9 for itself each.
        VotedUnseen own = Due.town("900000000;090000000");
        Due.is("own", own.pairs(), 0);
        Due.row("own", own);
        // All are worth 2: 0 1, 2 3 is the least row.
        VotedUnseen like = Due.town("111111110;111111110;111111110;111111110");
        Due.is("like", like.pairs(), 4);
        Due.row("like", like, 0, 1, 2, 3);
        // 0 1: 4 alone, or 0 2 and 1 3: 2 each: the fewest pairs.
        VotedUnseen few = Due.town("022000000;200200000;000000000;000000000");
        Due.is("few", few.pairs(), 4);
        Due.row("few", few, 0, 1);
        // 0 2 and 1 3: 3 each; 0 1: 5.
        VotedUnseen more = Due.town("033000000;200300000;000000000;000000000");
        Due.is("more", more.pairs(), 6);
        Due.row("more", more, 0, 2, 1, 3);
        // 1 3 and 2 3 alike: 0 is in none.
        VotedUnseen later = Due.town("000000000;000700000;000700000;000000000");
        Due.is("later", later.pairs(), 7);
        Due.row("later", later, 1, 3);
    }

    private static void power() {
        VotedUnseen x = Due.town(FOUR);
        for (int one : NO_SUCH) {
            Due.is("none such", x.power(one), -1);
        }
        // 5, 6, 7, 8 of 26, more than 13: pairs 1 3, 2 3 (14, 15) win, 0 3 (13) and 1 2 (13) don't,
        // and all threes do. 3: with 1, 2, 0 1, 0 2, 1 2: 5; 0: with 1 2: 1; 1: with 3, 0 2, 0 3: 3; 2: likewise.
        Due.is("3", x.power(3), 5);
        Due.row("3", x, 5, 12);
        Due.is("0", x.power(0), 1);
        Due.row("0", x, 1, 12);
        Due.is("1", x.power(1), 3);
        Due.row("1", x, 1, 4);
        x.goes(3);
        Due.is("away ones count", x.power(3), 5);
        x.sheet(3, 0, 0, 0);
        Due.is("no bread", x.power(0), 0);
        Due.row("no bread", x, 0, 1);
        x.sheet(2, 2, 1, 0);
        Due.is("two of one each", x.power(0), 4);
        Due.row("two of one each", x, 1, 2);
        Due.is("no bread of its own", x.power(2), 0);
        Due.row("no bread of its own", x, 0, 1);
    }

    private static void likely() {
        VotedUnseen x = Due.town(FOUR);
        for (int one : NO_SUCH) {
            Due.is("none such", x.likely(one, 5), -1);
        }
        Due.is("below", x.likely(0, -1), -1);
        Due.is("above", x.likely(0, 11), -1);
        // Three others, three of four are needed.
        Due.is("half", x.likely(0, 5), 0);
        Due.row("half", x, 1, 8);
        x.likely(0, 0);
        Due.row("never", x, 0, 1);
        x.likely(0, 10);
        Due.row("always", x, 1, 1);
        x.likely(0, 2);
        Due.row("two tenths", x, 1, 125);
        x.goes(3);
        // Three vote: 0's two others must both; 3, who is away, needs two of three.
        x.likely(0, 3);
        Due.row("both", x, 9, 100);
        x.likely(3, 5);
        Due.row("one who is away", x, 1, 2);
        x.likely(3, 1);
        Due.row("one who is away, by a tenth", x, 7, 250);
        x.goes(1);
        x.goes(2);
        // Nobody votes.
        x.likely(0, 10);
        Due.row("no votes", x, 0, 1);
    }

    private static void spared() {
        VotedUnseen x = Due.town(FOUR);
        for (int one : NO_SUCH) {
            Due.is("none such", x.spared(one, 1), -1);
        }
        Due.is("none", x.spared(0, 0), -1);
        Due.is("nine", x.spared(0, 9), -1);
        Due.is("one", x.spared(0, 1), 0);
        Due.row("one", x, 3, 4);
        x.spared(0, 3);
        Due.row("three", x, 1, 3);
        x.spared(0, 8);
        Due.row("eight", x, 32, 729);
        x.months(1);
        x.spared(0, 1);
        Due.row("the unseen", x, 1, 1);
        x.spared(0, 3);
        Due.row("the unseen, three", x, 4, 9);
        x.spared(1, 3);
        Due.row("another", x, 8, 27);
        x.goes(1);
        x.goes(2);
        x.spared(0, 2);
        Due.row("by turns", x, 0, 1);
        x.spared(3, 1);
        Due.row("by turns, now", x, 0, 1);
        x.spared(1, 5);
        Due.row("one who is away", x, 1, 1);
        x.goes(3);
        x.vote();
        Due.is("too few", x.spared(0, 1), -2);
        Due.row("too few changes no row", x, 0, 0, 0, 0);
        Due.is("away is asked first", x.spared(3, 1), 0);
        Due.row("away is asked first", x, 1, 1);
        Due.is("others are asked ahead", x.spared(3, 9), -1);
    }

    private static void noticed() {
        VotedUnseen x = new VotedUnseen();
        int[][] refused = {{0, 8}, {0, -1}, {1, 100}, {1, -1}, {2, 1000}, {2, -1}, {3, 8}, {3, -1}, {4, 2}, {4, -1},
            {5, 0}, {-1, 0}, {5, -1}, {Integer.MIN_VALUE, 0}, {0, Integer.MAX_VALUE}};
        for (int[] one : refused) {
            Due.is("refused " + one[0] + " " + one[1], x.noticed(one[0], one[1]), -1);
        }
        Due.is("none", x.forget(), 0);
        int[][] fine = {{0, 0}, {0, 7}, {1, 0}, {1, 99}, {2, 0}, {2, 999}, {3, 0}, {3, 7}, {4, 0}, {4, 1}, {4, 1},
            {0, 0}};
        for (int i = 0; i < fine.length; i++) {
            Due.is("noticed", x.noticed(fine[i][0], fine[i][1]), i + 1);
        }
        Due.is("a thirteenth", x.noticed(0, 0), -1);
        Due.is("twelve", x.count(8), 12);
        Due.is("forgotten", x.forget(), 12);
        Due.is("none again", x.count(8), 0);
        Due.is("first again", x.noticed(4, 0), 1);
    }

    private static void fits() {
        VotedUnseen x = Due.town(FOUR);
        Due.is("all", x.fits(), 15);
        Due.row("all", x, 4);
        x.noticed(1, 6);
        Due.is("bread", x.fits(), 14);
        Due.row("bread", x, 3);
        x.noticed(3, 0);
        Due.is("vote", x.fits(), 14);
        x.goes(3);
        Due.is("away ones don't vote", x.fits(), 6);
        x.forget();
        x.noticed(4, 1);
        Due.is("away", x.fits(), 8);
        x.forget();
        x.noticed(4, 0);
        Due.is("here", x.fits(), 7);
        x.tells(1, 2);
        x.noticed(0, 1);
        Due.is("secret", x.fits(), 6);
        x.noticed(0, 2);
        Due.is("two secrets", x.fits(), 4);
        Due.row("two secrets", x, 1);
        x.forget();
        x.noticed(2, 1);
        Due.is("times", x.fits(), 0);
        Due.row("times", x, 0);
        x.months(1);
        Due.is("times later", x.fits(), 1);
        x.forget();
        x.noticed(3, 7);
        Due.is("votes for none such", x.fits(), 0);
    }

    private static void ask() {
        VotedUnseen x = new VotedUnseen();
        Due.is("no people", x.ask(), -2);
        Due.row("no row", x);
        Due.people(x, FOUR);
        Due.is("the first", x.ask(), 0);
        Due.row("three at most", x, 3);
        x.tells(2, 3);
        Due.is("2", x.ask(), 2);
        Due.row("two at most", x, 2);
        x.noticed(0, 2);
        // 2 and 3 fit: 2 knows 2 alone, 3 knows 2 and 3.
        Due.is("3", x.ask(), 3);
        Due.row("one at most", x, 1);
        x.noticed(0, 3);
        Due.is("one is left", x.ask(), 0);
        Due.row("one is left", x, 1);
        x.noticed(0, 7);
        Due.is("none fits", x.ask(), -2);
        Due.row("none fits changes no row", x, 1);
        VotedUnseen open = Due.town(FOUR + ";" + FOUR);
        Due.is("seven at most", open.ask(), 0);
        Due.row("seven at most", open, 7);
        for (int one = 0; one < 8; one++) {
            for (int other = 0; other < 8; other++) {
                open.tells(one, other);
            }
        }
        Due.is("all know all", open.ask(), 0);
        Due.row("all know all", open, 8);
    }
}
