import java.util.Collections;

/** The edges that the promises 32 to 39 name, each sentence by itself. */
final class ChancesEdgesTest {
    private static final int LEAST = Integer.MIN_VALUE;
    private static final int MOST = Integer.MAX_VALUE;

    public static void main(String[] args) {
        pairsOfNone();
        pairsOfAll();
        pairsOfAsGoodOnes();
        pairsOfThoseWhoAreHere();
        pairsBehindOtherQuestions();
        powerOutside();
        powerOfHalf();
        powerOfNoBread();
        likelyOutside();
        likelyAtItsEdges();
        likelyOfMoreThanHalf();
        likelyOfThoseWhoVote();
        sparedOutside();
        sparedAtItsEdges();
        sparedOfOneAway();
        sparedOfTooFew();
        sparedOfUnseen();
        noticedOutside();
        noticedTwelve();
        forgetNone();
        fitsAtItsEdges();
        fitsOfVotes();
        askOfNone();
        askOfEqualOnes();
        Due.finish();
    }

    private static VotedUnseen town(int people) {
        return Due.town(Edge.lines(people));
    }

    /** 0 is UNSEEN. */
    private static VotedUnseen unseen(int people) {
        VotedUnseen x = town(people);
        x.months(1);
        return x;
    }

    private static VotedUnseen away(int people, int... those) {
        VotedUnseen x = town(people);
        for (int one : those) {
            x.goes(one);
        }
        return x;
    }

    private static void pairsOfNone() {
        Edge.question("pairs without LIKING", () -> town(8), VotedUnseen::pairs, 0);
        Edge.question("pairs of one alone", () -> Due.town("999999999"), VotedUnseen::pairs, 0);
        Edge.question("pairs without PEOPLE", Edge::empty, VotedUnseen::pairs, 0);
    }

    private static void pairsOfAll() {
        String all = String.join(";", Collections.nCopies(8, "999999990"));
        Edge.question("four pairs", () -> Due.town(all), VotedUnseen::pairs, 72, 0, 1, 2, 3, 4, 5, 6, 7);
        Edge.question("three pairs of seven", () -> Due.town(all.substring(0, 69)), VotedUnseen::pairs, 54,
            0, 1, 2, 3, 4, 5);
        Edge.question("LIKING of one alone", () -> Due.town("010000000;000000000"), VotedUnseen::pairs, 1, 0, 1);
        Edge.question("LIKING of the other one alone", () -> Due.town("000000000;100000000"), VotedUnseen::pairs, 1,
            0, 1);
        Edge.question("LIKING of both", () -> Due.town("030000000;400000000"), VotedUnseen::pairs, 7, 0, 1);
    }

    private static void pairsOfAsGoodOnes() {
        // 0 with 1: 3, 1 with 2: 6, 2 with 3: 3: the row 0 1 2 3 is less, but two pairs.
        Edge.question("the fewest pairs", () -> Due.town("030000000;006000000;000300000;000000000"),
            VotedUnseen::pairs, 6, 1, 2);
        Edge.question("one more by two pairs", () -> Due.town("030000000;006000000;000400000;000000000"),
            VotedUnseen::pairs, 7, 0, 1, 2, 3);
        // A pair without LIKING is one too many.
        Edge.question("no pair of 0", () -> Due.town("050000000;000000000;000000000;000000000"), VotedUnseen::pairs, 5,
            0, 1);
        Edge.question("the least row, first number", () -> Due.town("000000000;500000000;050000000"),
            VotedUnseen::pairs, 5, 0, 1);
        Edge.question("the least row, second number", () -> Due.town("055000000;000000000;000000000"),
            VotedUnseen::pairs, 5, 0, 1);
        // 0 3 and 1 2, or 0 2 and 1 3: 2 each.
        Edge.question("the least row of two pairs", () -> Due.town("001100000;001100000;000000000;000000000"),
            VotedUnseen::pairs, 2, 0, 2, 1, 3);
        Edge.question("all alike", () -> Due.town("011100000;001100000;000100000;000000000"), VotedUnseen::pairs, 2,
            0, 1, 2, 3);
    }

    private static void pairsOfThoseWhoAreHere() {
        String two = "050000000;500000000;110000000";
        Edge.question("all HERE", () -> Due.town(two), VotedUnseen::pairs, 10, 0, 1);
        Edge.question("0 is AWAY", () -> {
            VotedUnseen x = Due.town(two);
            x.goes(0);
            return x;
        }, VotedUnseen::pairs, 1, 1, 2);
        Edge.question("two are AWAY", () -> {
            VotedUnseen x = Due.town(two);
            x.goes(0);
            x.goes(1);
            return x;
        }, VotedUnseen::pairs, 0);
        Edge.question("UNSEEN is HERE", () -> {
            VotedUnseen x = Due.town(two);
            x.months(1);
            return x;
        }, VotedUnseen::pairs, 10, 0, 1);
    }

    /** Whatever was asked ahead of it. */
    private static void pairsBehindOtherQuestions() {
        Edge.Make make = () -> {
            VotedUnseen x = Due.town("030000000;006000000;000300000;000000000");
            x.owes(0, 1, 1);
            x.owes(1, 2, 1);
            return x;
        };
        Edge.question("pairs behind a chain", make, x -> {
            x.chain();
            return x.pairs();
        }, 6, 1, 2);
        Edge.question("a chain behind pairs", make, x -> {
            x.pairs();
            return x.chain();
        }, 3, 0, 1, 2);
        Edge.question("pairs of one alone behind a chain", () -> Due.town("900000000"), x -> {
            x.chain();
            return x.pairs();
        }, 0);
    }

    private static void powerOutside() {
        Edge.noSuch("power", Edge::busy, VotedUnseen::power);
    }

    private static VotedUnseen withBread(int people, int first, int step) {
        VotedUnseen x = town(people);
        x.sheet(2, people, first, step);
        return x;
    }

    private static void powerOfHalf() {
        // Of two like ones each is half, not more: each with the other one.
        Edge.question("half is not more", () -> withBread(2, 1, 0), x -> x.power(0), 1, 1, 2);
        // 1, 2 of 3: 2 is more than half alone and with 1.
        Edge.question("more than half alone", () -> withBread(2, 1, 1), x -> x.power(1), 2, 1, 1);
        Edge.question("never needed", () -> withBread(2, 1, 1), x -> x.power(0), 0, 0, 1);
        Edge.question("one alone", () -> withBread(1, 1, 0), x -> x.power(0), 1, 1, 1);
        // Four others have half of all eight.
        Edge.question("eight of 99", () -> withBread(8, 99, 0), x -> x.power(7), 35, 1, 8);
        Edge.question("seven of 99", () -> withBread(7, 99, 0), x -> x.power(6), 20, 1, 7);
        Edge.question("one AWAY counts", () -> {
            VotedUnseen x = withBread(2, 1, 0);
            x.goes(1);
            return x;
        }, x -> x.power(1), 1, 1, 2);
    }

    private static void powerOfNoBread() {
        Edge.question("no BREAD at all", () -> town(8), x -> x.power(3), 0, 0, 1);
        Edge.question("none of its own", () -> withBread(3, 1, -1), x -> x.power(2), 0, 0, 1);
        Edge.question("all of it", () -> withBread(3, 1, -1), x -> x.power(0), 4, 1, 1);
    }

    private static void likelyOutside() {
        Edge.noSuch("likely", Edge::busy, (x, one) -> x.likely(one, 5));
        int[] outside = {-1, 11, LEAST, MOST};
        for (int p : outside) {
            Edge.refused("likely by " + p, Edge::busy, x -> x.likely(0, p), -1);
        }
    }

    private static void likelyAtItsEdges() {
        Edge.question("by 0 tenths", () -> town(8), x -> x.likely(0, 0), 0, 0, 1);
        Edge.question("by 10 tenths", () -> town(8), x -> x.likely(0, 10), 0, 1, 1);
        // Five of seven or more: 21, 7, 1.
        Edge.question("by 5 tenths", () -> town(8), x -> x.likely(7, 5), 0, 29, 128);
        Edge.question("by 1 tenth", () -> town(8), x -> x.likely(7, 1), 0, 353, 2000000);
        // 21 * 9^5 + 7 * 9^6 + 9^7 is 9743085 of 10^7.
        Edge.question("by 9 tenths", () -> town(8), x -> x.likely(7, 9), 0, 1948617, 2000000);
    }

    private static void likelyOfMoreThanHalf() {
        // One of two is half.
        Edge.question("half of two", () -> town(2), x -> x.likely(0, 10), 0, 0, 1);
        Edge.question("two of three", () -> town(3), x -> x.likely(0, 5), 0, 1, 4);
        // Two of four are half; three of three others.
        Edge.question("three of four", () -> town(4), x -> x.likely(0, 5), 0, 1, 8);
        Edge.question("three of five", () -> town(5), x -> x.likely(0, 5), 0, 5, 16);
    }

    private static void likelyOfThoseWhoVote() {
        Edge.question("nobody votes", () -> town(1), x -> x.likely(0, 10), 0, 0, 1);
        Edge.question("one AWAY has no vote", () -> away(3, 2), x -> x.likely(0, 10), 0, 0, 1);
        Edge.question("of one AWAY, both others", () -> away(3, 2), x -> x.likely(2, 5), 0, 1, 4);
        // 0 is UNSEEN and alone has one to vote for.
        Edge.question("UNSEEN alone votes", () -> unseen(2), x -> x.likely(1, 3), 0, 3, 10);
        Edge.question("its own vote is for somebody else", () -> unseen(2), x -> x.likely(0, 10), 0, 0, 1);
        Edge.question("in busy() three vote", Edge::busy, x -> x.likely(1, 1), 0, 1, 100);
    }

    private static void sparedOutside() {
        Edge.noSuch("spared", Edge::busy, (x, one) -> x.spared(one, 1));
        int[] outside = {0, -1, 9, LEAST, MOST};
        for (int n : outside) {
            Edge.refused("spared in " + n, Edge::busy, x -> x.spared(0, n), -1);
            Edge.refused("spared in " + n + ", one AWAY", Edge::busy, x -> x.spared(3, n), -1);
            Edge.refused("spared in " + n + ", too few", () -> town(1), x -> x.spared(0, n), -1);
        }
    }

    private static void sparedAtItsEdges() {
        Edge.question("in 1 of eight", () -> town(8), x -> x.spared(0, 1), 0, 7, 8);
        Edge.question("in 2 of eight", () -> town(8), x -> x.spared(0, 2), 0, 3, 4);
        // 7 by 8, then 6 by 7 seven times.
        Edge.question("in 8 of eight", () -> town(8), x -> x.spared(7, 8), 0, 34992, 117649);
        Edge.question("in 1 of two", () -> town(2), x -> x.spared(0, 1), 0, 1, 2);
        Edge.question("in 2 of two", () -> town(2), x -> x.spared(0, 2), 0, 0, 1);
        Edge.question("in 8 of two", () -> town(2), x -> x.spared(1, 8), 0, 0, 1);
        Edge.question("in 3 of three", () -> town(3), x -> x.spared(1, 3), 0, 1, 6);
    }

    private static void sparedOfOneAway() {
        Edge.question("one AWAY, in 1", () -> away(3, 0), x -> x.spared(0, 1), 0, 1, 1);
        Edge.question("one AWAY, in 8", () -> away(3, 0), x -> x.spared(0, 8), 0, 1, 1);
        Edge.question("AWAY is asked ahead of too few, one HERE", () -> away(2, 0), x -> x.spared(0, 8), 0, 1, 1);
        Edge.question("AWAY is asked ahead of too few, none HERE", () -> away(2, 0, 1), x -> x.spared(1, 1), 0, 1, 1);
        Edge.question("those AWAY are not drawn", () -> away(3, 2), x -> x.spared(0, 1), 0, 1, 2);
    }

    private static void sparedOfTooFew() {
        Edge.refused("one alone", () -> town(1), x -> x.spared(0, 1), -2);
        Edge.refused("one of two is HERE", () -> away(2, 1), x -> x.spared(0, 8), -2);
        Edge.refused("UNSEEN alone is HERE", () -> {
            VotedUnseen x = unseen(2);
            x.goes(1);
            return x;
        }, x -> x.spared(0, 1), -2);
    }

    private static void sparedOfUnseen() {
        Edge.question("UNSEEN is not drawn first", () -> unseen(2), x -> x.spared(0, 1), 0, 1, 1);
        Edge.question("UNSEEN is drawn next of two", () -> unseen(2), x -> x.spared(0, 2), 0, 0, 1);
        Edge.question("the other one of two is drawn", () -> unseen(2), x -> x.spared(1, 1), 0, 0, 1);
        Edge.question("of all but UNSEEN", () -> unseen(4), x -> x.spared(1, 1), 0, 2, 3);
        Edge.question("UNSEEN in 8 of eight", () -> unseen(8), x -> x.spared(0, 8), 0, 279936, 823543);
        Edge.question("another in 8 of eight", () -> unseen(8), x -> x.spared(1, 8), 0, 1679616, 5764801);
    }

    private static void noticedOutside() {
        int[][] outside = {{0, -1}, {0, 8}, {1, -1}, {1, 100}, {2, -1}, {2, 1000}, {3, -1}, {3, 8}, {4, -1}, {4, 2},
            {-1, 0}, {5, 0}, {5, -1}, {LEAST, 0}, {MOST, 0}, {0, LEAST}, {2, MOST}, {MOST, MOST}, {LEAST, LEAST},
            {-1, -1}};
        for (int[] one : outside) {
            Edge.refused("noticed " + one[0] + " " + one[1], Edge::busy, x -> x.noticed(one[0], one[1]), -1);
        }
        int[][] inside = {{0, 0}, {0, 7}, {1, 0}, {1, 99}, {2, 0}, {2, 999}, {3, 0}, {3, 7}, {4, 0}, {4, 1}};
        for (int[] one : inside) {
            Due.is("noticed " + one[0] + " " + one[1], Edge.busy().noticed(one[0], one[1]), 3);
        }
    }

    private static VotedUnseen withNoticed(int n) {
        VotedUnseen x = town(3);
        for (int i = 0; i < n; i++) {
            x.noticed(4, 0);
        }
        return x;
    }

    private static void noticedTwelve() {
        Due.is("a twelfth", withNoticed(11).noticed(0, 0), 12);
        Edge.refused("a thirteenth", () -> withNoticed(12), x -> x.noticed(0, 0), -1);
        Edge.refused("a thirteenth, another", () -> withNoticed(12), x -> x.noticed(4, 0), -1);
        VotedUnseen x = withNoticed(11);
        x.noticed(0, 2);
        Due.is("the twelfth counts", x.fits(), 4);
    }

    private static void forgetNone() {
        Edge.refused("forget none", () -> town(3), VotedUnseen::forget, 0);
        VotedUnseen x = withNoticed(12);
        x.noticed(0, 2);
        Due.is("forget twelve", x.forget(), 12);
        Due.is("forget again", x.forget(), 0);
        Due.is("none is noticed", x.count(8), 0);
        Due.is("room again", x.noticed(4, 1), 1);
        Due.is("what was noticed ahead does not count", x.fits(), 0);
    }

    private static void fitsAtItsEdges() {
        Edge.question("none noticed: all fit", () -> town(8), VotedUnseen::fits, 255, 8);
        // 4, 5, 6 of BREAD.
        fitsBy("BREAD just as much", 1, 5, 6);
        fitsBy("BREAD one more", 1, 7, 0);
        fitsBy("BREAD 0 or more", 1, 0, 7);
        fitsBy("TIMES 0 or more", 2, 0, 7);
        fitsBy("TIMES 1 or more", 2, 1, 0);
        fitsBy("SECRET of its own", 0, 2, 4);
        fitsBy("SECRET of none such", 0, 7, 0);
        fitsBy("HERE", 4, 0, 7);
        fitsBy("AWAY", 4, 1, 0);
        VotedUnseen x = unseen(3);
        x.noticed(2, 1);
        Due.is("TIMES just as many", x.fits(), 1);
        Due.row("TIMES just as many", x, 1);
        x.noticed(2, 2);
        Due.is("TIMES one more", x.fits(), 0);
        Due.row("none fits", x, 0);
        VotedUnseen y = away(3, 1);
        y.noticed(4, 1);
        Due.is("one AWAY", y.fits(), 2);
        y.noticed(4, 0);
        Due.is("AWAY and HERE", y.fits(), 0);
    }

    private static void fitsBy(String what, int kind, int v, int want) {
        Edge.question(what, () -> {
            VotedUnseen x = withBread(3, 4, 1);
            x.noticed(kind, v);
            return x;
        }, VotedUnseen::fits, want, Integer.bitCount(want));
    }

    private static void fitsOfVotes() {
        VotedUnseen x = town(3);
        x.noticed(3, 0);
        Due.is("vote for 0", x.fits(), 6);
        x.goes(2);
        Due.is("now: one AWAY votes no more", x.fits(), 2);
        x.months(1);
        Due.is("now: 0 is UNSEEN", x.fits(), 0);
        x.forget();
        x.noticed(3, 7);
        Due.is("vote for none such", x.fits(), 0);
    }

    private static void askOfNone() {
        Edge.refused("ask without PEOPLE", Edge::empty, VotedUnseen::ask, -2);
        Edge.refused("none fits", () -> {
            VotedUnseen x = Edge.busy();
            x.noticed(0, 7);
            return x;
        }, VotedUnseen::ask, -2);
    }

    private static void askOfEqualOnes() {
        Edge.question("one alone: the first", () -> town(1), VotedUnseen::ask, 0, 1);
        Edge.question("of equal ones the first", () -> town(8), VotedUnseen::ask, 0, 7);
        Edge.question("all know all: eight at most", () -> {
            VotedUnseen x = town(8);
            for (int one = 0; one < 8; one++) {
                for (int other = 0; other < 8; other++) {
                    x.tells(one, other);
                }
            }
            return x;
        }, VotedUnseen::ask, 0, 8);
        Edge.question("the one that halves", () -> {
            VotedUnseen x = town(8);
            x.tells(7, 0);
            x.tells(7, 1);
            x.tells(7, 2);
            return x;
        }, VotedUnseen::ask, 7, 4);
        Edge.question("known to all is no help", () -> {
            VotedUnseen x = town(2);
            x.tells(0, 1);
            return x;
        }, VotedUnseen::ask, 1, 1);
        // Of those who fit alone: 1 and 2 know 3; 1 alone knows 1.
        Edge.question("of those who fit", () -> {
            VotedUnseen x = town(4);
            x.tells(3, 1);
            x.tells(3, 2);
            x.noticed(0, 3);
            return x;
        }, VotedUnseen::ask, 1, 2);
    }
}
