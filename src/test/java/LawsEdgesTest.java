/** The edges that the promises 40 to 46 name, each sentence by itself. */
final class LawsEdgesTest {
    private static final int LEAST = Integer.MIN_VALUE;
    private static final int MOST = Integer.MAX_VALUE;

    public static void main(String[] args) {
        emptyLaw();
        lawOfNobody();
        lawThatCannotStand();
        lawOfAllAndNone();
        restsOutside();
        restsAtTheirEdges();
        yearsOutside();
        yearsAtTheirEdges();
        yearsOfNobody();
        yearsOfLikeOnesAndUnseen();
        drawsAsInts();
        keepOutside();
        againOfNothing();
        againOfPeopleSince();
        againAndAgain();
        countOutside();
        countAtItsEdges();
        rowOutside();
        rowAtItsEdges();
        Due.finish();
    }

    private static VotedUnseen withoutText(VotedUnseen x) {
        x.end(0);
        return x;
    }

    /** A law reads THE TEXT, so that the twin, which has none, must be as the object is then. */
    private static void law(String what, Edge.Make make, String text, long want, long... row) {
        Edge.question(what, () -> withoutText(make.make()), x -> {
            Due.text(x, text);
            return x.law();
        }, want, row);
    }

    private static void emptyLaw() {
        law("an empty law, as it is", Edge::four, "", 0, 0, 0);
        Edge.Make byBread = () -> {
            VotedUnseen x = Edge.four();
            Due.rule(x, "b");
            return x;
        };
        // By BREAD 0, 1 and 2 vote for 3, 3 for 2.
        law("an empty law is none", byBread, "", 4, 15, 0);
        law("the same law", byBread, "b", 0, 0, 3);
    }

    private static void lawOfNobody() {
        law("a law without PEOPLE", Edge::empty, "b", 0, 0, -2);
        law("a law of one alone", () -> Due.town(Edge.LINE), "b", 0, 0, -2);
        law("a law, all AWAY", () -> {
            VotedUnseen x = Due.town(Edge.lines(2));
            x.goes(0);
            x.goes(1);
            return x;
        }, "-l", 0, 0, -2);
    }

    private static void lawThatCannotStand() {
        Edge.refusedText("a law, fault at 0", Edge::busy, "x", VotedUnseen::law, -10000);
        Edge.refusedText("a law, fault at 1", Edge::busy, "lx", VotedUnseen::law, -10001);
        Edge.refusedText("a law that ends too early", Edge::busy, "l+", VotedUnseen::law, -10002);
        Edge.refusedText("a law, fault at 39", Edge::busy, "1+".repeat(19) + "1x", VotedUnseen::law, -10039);
        Edge.refusedText("a law of 41", Edge::busy, "1+".repeat(20) + "1", VotedUnseen::law, -10040);
        law("a law of 40", Edge::four, "1+".repeat(19) + "12", 1, 1, 0);
        law("a law of one sign", Edge::four, "1", 1, 1, 0);
    }

    private static void lawOfAllAndNone() {
        // All alike: 1 votes for 0 as ahead, 0 for 1.
        law("none votes otherwise", () -> Due.town(Edge.lines(8)), "7", 0, 0, 0);
        law("all vote otherwise", Edge::four, "b", 4, 15, 3);
        law("one AWAY does not vote otherwise", () -> {
            VotedUnseen x = Edge.four();
            x.goes(3);
            return x;
        }, "b", 2, 6, 2);
        law("UNSEEN can't be CHOSEN by it", Edge::busy, "t", 0, 0, 0);
    }

    private static void restsOutside() {
        int[] outside = {-1, 21, LEAST, MOST};
        for (int v : outside) {
            Edge.refused("rests for " + v, Edge::busy, x -> x.rests(v), -1);
        }
    }

    private static void restsAtTheirEdges() {
        Edge.question("rests for 0", Edge::busy, x -> x.rests(0), 1, 0, 0);
        Edge.question("rests for 1, half is cut to 0", Edge::busy, x -> x.rests(1), 3, 0, 0);
        Edge.question("rests for 2", Edge::busy, x -> x.rests(2), 4, 0, 0);
        for (int v = 3; v <= 20; v++) {
            int worth = v;
            Edge.question("nothing without, " + v, Edge::busy, x -> x.rests(worth), 0);
        }
    }

    private static void yearsOutside() {
        int[] outside = {0, -1, 61, LEAST, MOST};
        for (int n : outside) {
            Edge.refused("years " + n, Edge::busy, x -> x.years(1, n), -1);
        }
    }

    private static int draw(long[] r, int n) {
        r[0] = r[0] * 1103515245L + 12345 & 0xFFFFFFFFL;
        return (int) (r[0] / 65536 % n);
    }

    /** The same by acts that are done. */
    private static void years(String what, Edge.Make make, int seed, int n) {
        VotedUnseen done = make.make();
        int people = done.count(0);
        long[] r = {seed};
        int chosen = 0;
        for (int i = 0; i < n; i++) {
            int kind = draw(r, 4);
            if (kind < 2) {
                chosen += done.months(1) >= 0 ? 1 : 0;
            } else if (people > 0) {
                int one = draw(r, people);
                if (kind == 3) {
                    done.goes(one);
                } else {
                    done.tells(one, draw(r, people));
                }
            }
        }
        Edge.question(what, make, x -> x.years(seed, n), chosen, done.count(2), done.count(5));
    }

    private static void yearsAtTheirEdges() {
        int[] seeds = {0, 1, -1, LEAST, MOST, 42};
        for (int seed : seeds) {
            years("years of one, " + seed, Edge::busy, seed, 1);
            years("years of 60, " + seed, Edge::busy, seed, 60);
            years("years of eight people, " + seed, () -> Due.town(Edge.lines(8)), seed, 60);
        }
    }

    private static void yearsOfNobody() {
        for (int seed = 0; seed < 20; seed++) {
            years("years without PEOPLE", Edge::empty, seed, 60);
            years("years of one alone", () -> Due.town(Edge.LINE), seed, 60);
        }
    }

    private static void yearsOfLikeOnesAndUnseen() {
        // Of two many draws are like ones, and UNSEEN who can't go.
        for (int seed = 0; seed < 20; seed++) {
            years("years of two", () -> Due.town(Edge.lines(2)), seed, 60);
            years("years of three", () -> Due.town(Edge.lines(3)), seed, 31);
        }
    }

    private static void drawsAsInts() {
        // R is 12345: 0, a MONTH. R is -1: it is -1103502900 as an int, 3191464396 without sign: 48697, 1: a MONTH.
        Edge.question("seed 0", () -> Due.town(Edge.lines(2)), x -> x.years(0, 1), 1, 0, 3);
        Edge.question("seed -1", () -> Due.town(Edge.lines(2)), x -> x.years(-1, 1), 1, 0, 3);
        // R is 1103527590: 16838, 2: tells; R is 2524885223, 38526: of 2 one 0; R is 662824084, 10113: the other 1.
        Edge.question("seed 1", () -> Due.town(Edge.lines(2)), x -> x.years(1, 1), 0, -1, 3);
    }

    private static void keepOutside() {
        int[] outside = {-1, 3, LEAST, MOST};
        for (int i : outside) {
            Edge.refused("keep " + i, Edge::busy, x -> x.keep(i) ? 1 : 0, 0);
            Edge.refused("again " + i, Edge::busy, x -> x.again(i) ? 1 : 0, 0);
        }
        for (int i = 0; i <= 2; i++) {
            VotedUnseen x = Edge.four();
            Due.is("keep " + i, x.keep(i), true);
            x.months(3);
            for (int other = 0; other <= 2; other++) {
                Due.is("again " + other + " of " + i, x.again(other), other == i);
            }
            Due.is("as it was kept", x.count(1), 0);
        }
    }

    private static void againOfNothing() {
        for (int i = 0; i <= 2; i++) {
            int at = i;
            Edge.refused("nothing kept", Edge::four, x -> x.again(at) ? 1 : 0, 0);
        }
        Edge.refused("nothing kept under 0", Edge::busy, x -> x.again(0) ? 1 : 0, 0);
    }

    private static void againOfPeopleSince() {
        Edge.refused("PEOPLE came since", () -> {
            VotedUnseen x = Edge.busy();
            Due.people(x, Edge.LINE);
            return x;
        }, x -> x.again(1) ? 1 : 0, 0);
        Edge.refused("PEOPLE came since nobody was kept", () -> {
            VotedUnseen x = new VotedUnseen();
            x.keep(0);
            Due.people(x, Edge.LINE);
            return x;
        }, x -> x.again(0) ? 1 : 0, 0);
        VotedUnseen none = Edge.busy();
        Due.people(none, "");
        Due.is("none came by an empty text", none.again(1), true);
        VotedUnseen refused = Edge.busy();
        Due.people(refused, "1");
        Due.is("none came by a refused text", refused.again(1), true);
        VotedUnseen anew = Edge.busy();
        Due.people(anew, Edge.LINE);
        Due.is("kept anew", anew.keep(1), true);
        Due.is("again anew", anew.again(1), true);
        Due.is("the former one is not", anew.again(2), false);
    }

    private static void againAndAgain() {
        VotedUnseen x = Edge.busy();
        Due.is("kept ahead of two MONTHS", x.again(1), true);
        int[] then = {4, 0, -1, 15, 26, 5, 1028, 3, 2, 0, 4, 2};
        for (int what = 0; what < then.length; what++) {
            Due.is("again, count " + what, x.count(what), then[what]);
        }
        for (int one = 0; one < 4; one++) {
            Due.is("TIMES again", x.person(one, 2), 0);
        }
        x.months(7);
        Due.is("the same again", x.again(1), true);
        Due.is("MONTH again", x.count(1), 0);
        Due.is("the later one", x.again(2), true);
        Due.is("UNSEEN again", x.count(2), 2);
        Due.is("AWAY again", x.count(3), 7);
        Due.is("DEBTS again", x.count(6), 1030);
        Due.is("keep over it", x.keep(1), true);
        x.months(1);
        x.again(1);
        Due.is("over it", x.count(1), 2);
        Due.rule(x, "5");
        Due.walk(x, "7");
        x.forget();
        x.again(1);
        Due.is("the rule is not kept", x.between(0, 1, 1), 5);
        Due.is("the walk is not kept", x.count(7), 1);
        Due.is("what was noticed is not kept", x.count(8), 0);
    }

    private static void countOutside() {
        int[] outside = {-1, 12, 13, LEAST, MOST};
        for (int what : outside) {
            Edge.refused("count " + what, Edge::busy, x -> x.count(what), -100);
        }
    }

    private static void countAtItsEdges() {
        VotedUnseen x = Due.town(Edge.lines(8));
        x.sheet(2, 8, 99, 0);
        for (int one = 0; one < 8; one++) {
            for (int other = 0; other < 8; other++) {
                x.owes(one, other, 999);
                x.tells(one, other);
            }
        }
        Due.walk(x, "12345671");
        for (int i = 0; i < 12; i++) {
            x.noticed(4, 0);
        }
        x.vote();
        for (int i = 0; i < 20; i++) {
            x.sign(0);
        }
        int[] most = {8, 0, -1, 255, 792, 64, 55944, 8, 12, 15, 8, 80};
        for (int what = 0; what < most.length; what++) {
            Due.is("most, count " + what, x.count(what), most[what]);
        }
    }

    private static void rowOutside() {
        int[] outside = {-1, 4, 8, LEAST, MOST};
        for (int i : outside) {
            Edge.missing("row " + i, Edge::busy, x -> x.row(i));
        }
        Edge.missing("row of none", Edge::empty, x -> x.row(0));
        Edge.missing("row without resting pairs", () -> {
            VotedUnseen x = Edge.busy();
            x.rests(20);
            return x;
        }, x -> x.row(0));
    }

    private static void rowAtItsEdges() {
        VotedUnseen x = Due.town(Edge.lines(8));
        x.vote();
        long[] votes = {7, 1, 0, 0, 0, 0, 0, 0};
        for (int i = 0; i < votes.length; i++) {
            Due.is("row " + i, x.row(i), votes[i]);
        }
        Due.missing("row 8", () -> x.row(8));
        x.fits();
        Due.is("row 0 of one", x.row(0), 8);
        Due.missing("row 1 of one", () -> x.row(1));
        Due.missing("row 7 of one", () -> x.row(7));
    }
}
