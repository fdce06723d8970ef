/** Promises 17 to 24: votes now and later. */
final class VotesTest {
    // Votes: 0 for 1, 1 for 2, 2 for 1.
    private static final String THREE = "052000004;209000001;670000000";
    // Votes: 0 for 2, 1, 2 and 3 for 0.
    private static final String FOUR = "059100005;900000006;910000007;900000008";
    private static final int[] NO_SUCH = {-1, 4, 8, Integer.MIN_VALUE, Integer.MAX_VALUE};

    public static void main(String[] args) {
        vote();
        ahead();
        when();
        learns();
        without();
        farthest();
        swings();
        holds();
        duels();
        Due.finish();
    }

    private static void vote() {
        VotedUnseen x = Due.town(FOUR);
        Due.is("chosen", x.vote(), 0);
        Due.row("chosen", x, 3, 0, 1, 0);
        Due.is("changes nothing", x.count(1), 0);
        x.months(1);
        // 0 is unseen, and votes all the same.
        Due.is("without the unseen", x.vote(), 1);
        Due.row("without the unseen", x, 0, 2, 2, 0);
        VotedUnseen none = Due.town("000000000;000000000");
        Due.is("of equal ones the first", none.vote(), 0);
        Due.row("one each", none, 1, 1);
        none.goes(0);
        Due.is("alone", none.vote(), -2);
        Due.row("alone", none, 0, 0);
        none.goes(1);
        Due.is("nobody is here", none.vote(), -2);
        // GLADNESS below 0 is GLADNESS: -2 is more than -3.
        VotedUnseen y = Due.town("035000000;000000000;000000000");
        Due.rule(y, "-l");
        Due.is("votes for the least bad one", y.person(0, 4), 1);
        Due.rule(y, "7");
        Due.is("of like gladness the first", y.person(0, 4), 1);
        Due.is("of like gladness the first, too", y.person(1, 4), 0);
    }

    private static void ahead() {
        VotedUnseen x = Due.town(FOUR);
        x.owes(0, 1, 3);
        for (int n = 0; n <= 60; n += 20) {
            VotedUnseen y = Due.town(FOUR);
            y.owes(0, 1, 3);
            Due.is("ahead is months", x.ahead(n), y.months(n));
            Due.row("ahead tells", x, y.count(4), y.count(5));
        }
        Due.is("99", x.ahead(99) >= 0, true);
        Due.is("now nobody", x.ahead(0), -2);
        Due.row("now", x, 26, 4);
        Due.is("in one", x.ahead(1), 0);
        Due.row("in one", x, 29, 5);
        Due.is("100", x.ahead(100), -1);
        Due.is("-1", x.ahead(-1), -1);
        Due.row("refused changes no row", x, 29, 5);
        Due.is("changes nothing", x.count(1), 0);
        Due.is("nothing to undo more", x.count(9), 1);
    }

    private static void when() {
        VotedUnseen x = Due.town(FOUR);
        for (int one : NO_SUCH) {
            Due.is("none such", x.when(one), -1);
        }
        Due.is("0", x.when(0), 1);
        Due.row("0 knows two", x, 2);
        Due.is("1", x.when(1), 2);
        Due.row("1 knows two", x, 2);
        x.months(1);
        // 0 is unseen now: that is not counted.
        Due.is("0 again", x.when(0), 2);
        x.goes(3);
        Due.is("away is in none", x.when(3), -2);
        Due.row("in none changes no row", x, 3);
        VotedUnseen alone = Due.town("000000000");
        Due.is("alone", alone.when(0), -2);
    }

    private static void learns() {
        VotedUnseen x = Due.town(FOUR);
        for (int one : NO_SUCH) {
            Due.is("none such", x.learns(one), -1);
        }
        Due.walk(x, "123");
        Due.is("0", x.learns(0), 1);
        Due.row("0 was unseen once", x, 1);
        x.tells(0, 3);
        x.tells(1, 3);
        x.tells(2, 3);
        Due.is("now", x.learns(3), 0);
        Due.row("now", x, 0);
        VotedUnseen y = Due.town(FOUR);
        y.goes(3);
        Due.is("in none", y.learns(3), -2);
        Due.row("in none changes no row", y);
        Due.is("one alone", Due.town("000000000").learns(0), 0);
        VotedUnseen far = Due.town("000000000;000000000");
        Due.walk(far, "2");
        Due.is("a walk to itself", far.learns(0), -2);
    }

    /** 2 is not liked till the debts to it, which grow by one a month, are above a number. */
    private static void farthest() {
        VotedUnseen x = Due.town("090000000;900000000;900000000");
        Due.walk(x, "12");
        x.owes(0, 2, 1);
        x.owes(1, 2, 1);
        Due.rule(x, "l+(d>98)*50");
        Due.is("in 99", x.when(2), 99);
        Due.row("in 99", x, 3);
        Due.is("knows all in 99", x.learns(2), 99);
        Due.row("knows all in 99", x, 1);
        Due.is("ahead 98", x.ahead(98) == 2, false);
        Due.is("ahead 99", x.ahead(99), 2);
        Due.rule(x, "l+(d>99)*50");
        Due.is("in 100", x.when(2), -2);
        Due.is("knows all in 100", x.learns(2), -2);
        x.months(1);
        Due.is("a month later", x.when(2), 99);
    }

    private static void without() {
        VotedUnseen x = Due.town(FOUR);
        for (int one : NO_SUCH) {
            Due.is("none such", x.without(one), -1);
        }
        // 1 for 2, 2 for 1, 3 for 1.
        Due.is("without 0", x.without(0), 1);
        Due.row("without 0", x, 0, 2, 1, 0);
        Due.is("without 3", x.without(3), 0);
        Due.row("without 3", x, 2, 0, 1, 0);
        x.months(1);
        Due.is("without the unseen", x.without(0), 1);
        Due.row("without the unseen", x, 0, 2, 1, 0);
        x.goes(3);
        Due.is("without one who is away", x.without(3), x.vote());
        Due.is("all are as they were", x.count(3), 7);
        VotedUnseen two = Due.town("000000000;000000000");
        Due.is("nobody", two.without(0), -2);
        Due.row("nobody", two, 0, 0);
    }

    private static void swings() {
        VotedUnseen x = Due.town(FOUR);
        for (int one : NO_SUCH) {
            Due.is("none such", x.swings(one), -1);
        }
        Due.is("0 is", x.swings(0), 0);
        Due.row("0 is", x, 0);
        // 3, 0, 1, 0: 1 must have more than 0: {0, 2}: 2, 2; {0, 2} no; {2, 3}: 1, 2 yes.
        Due.is("1", x.swings(1), 2);
        Due.row("1", x, 12);
        // 2 has one vote: of 1: 2, 2: the first is 0; of 1 and 3: 1, 3.
        Due.is("2", x.swings(2), 2);
        Due.row("2", x, 10);
        Due.is("3", x.swings(3), 2);
        Due.row("3", x, 6);
        x.months(1);
        Due.is("unseen", x.swings(0), -2);
        Due.row("can't be changes no row", x, 1, 0, 0, 0);
        x.goes(3);
        Due.is("away", x.swings(3), -2);
        VotedUnseen two = Due.town("000000000;000000000");
        // 1 has a vote of 0, 0 one of 1, which is its own: 0 has a vote that 1 can't turn.
        Due.is("its own vote stays", two.swings(1), -2);
        Due.is("of equal ones the first", two.swings(0), 0);
        VotedUnseen alone = Due.town("000000000");
        Due.is("alone", alone.swings(0), -2);
        // 0 for 1, 1 for 0, 2 for 0: both others must turn to 2.
        VotedUnseen all = Due.town("090000000;900000000;900000000");
        Due.is("all others", all.swings(2), 2);
        Due.row("all others", all, 3);
    }

    private static void holds() {
        VotedUnseen x = Due.town(FOUR);
        // With 0 the other one has two votes against two of 0; {1, 2}: 0 by 3, 3 by 2. One alone can't.
        Due.is("two", x.holds(), 2);
        Due.row("two", x, 6);
        VotedUnseen three = Due.town(THREE);
        // {0}: 1 by 2, 2 by 2. So one alone does.
        Due.is("one", three.holds(), 1);
        Due.row("one", three, 1);
        VotedUnseen two = Due.town("000000000;000000000");
        // {0}: 1 has one of 0, 0 has one of 1: the first is 0. {1}: 0 is chosen.
        Due.is("of two", two.holds(), 1);
        Due.row("of two", two, 2);
        two.months(1);
        // 1 alone can be chosen, and is, whoever turns.
        Due.is("none is needed", two.holds(), 0);
        Due.row("none is needed", two, 0);
        two.goes(1);
        Due.is("nobody", two.holds(), -2);
        Due.row("can't be changes no row", two, 0);
        Due.is("no people", new VotedUnseen().holds(), -2);
    }

    private static void duels() {
        VotedUnseen x = Due.town(FOUR);
        // 0 wins against 1 (2, 3), 2 (1, 3) and 3 (1, 2); 1 against 2: 0 for 2, 3 for none;
        // 1 against 3: 0 and 2 for 1; 2 against 3: 0 for 2, 1 for none.
        Due.is("0", x.duels(), 0);
        Due.row("0", x, 3, 1, 2, 0);
        x.months(1);
        // 0 is unseen, but votes: s*3 of those it knows makes no difference here.
        Due.is("without the unseen", x.duels(), 2);
        Due.row("without the unseen", x, 0, 1, 2, 0);
        VotedUnseen two = Due.town("090000000;000000000");
        Due.is("nobody is left to vote", two.duels(), -2);
        Due.row("nobody is left to vote", two, 0, 0);
        two.goes(0);
        Due.is("no duel", two.duels(), -2);
        Due.row("no duel", two, 0, 0);
        VotedUnseen none = new VotedUnseen();
        none.ahead(1);
        Due.is("no people", none.duels(), -2);
        Due.row("row is told all the same", none);
    }
}
