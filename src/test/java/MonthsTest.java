/** Promises 10 to 16: months, acts, years, undone. */
final class MonthsTest {
    private static final String THREE = "052000004;209000001;670000000";
    // All like 0 most, and 0 likes 1 most.
    private static final String FOUR = "059100005;900000006;910000007;900000008";

    public static void main(String[] args) {
        months();
        monthByHand();
        limitsOfAMonth();
        monthsWithoutSomebody();
        tells();
        gives();
        owes();
        goes();
        year();
        yearsThatCannotStand();
        undo();
        whatUndoForgets();
        Due.finish();
    }

    private static void months() {
        VotedUnseen x = Due.town(THREE);
        Due.is("below", x.months(-1), -1);
        Due.is("above", x.months(61), -1);
        Due.is("nothing to undo", x.count(9), 0);
        Due.row("refused tells none", x);
        Due.is("none", x.months(0), -2);
        Due.row("none", x, 0, 0, 0);
        Due.is("none can be undone", x.count(9), 1);
        Due.is("sixty", x.months(60) >= 0, true);
        Due.is("month", x.count(1), 60);
        long[] row = Due.rowOf(x);
        Due.is("row is by people", row.length, 3);
        Due.is("each month one", row[0] + row[1] + row[2], 60);
        for (int i = 0; i < 3; i++) {
            Due.is("times are the row", x.person(i, 2), row[i]);
        }
    }

    private static void monthByHand() {
        VotedUnseen x = Due.town(FOUR);
        Due.walk(x, "12");
        x.owes(1, 0, 10);
        x.owes(0, 1, 10);
        x.owes(2, 3, 1);
        Due.is("0 is chosen by three", x.months(1), 0);
        Due.row("chosen", x, 1, 0, 0, 0);
        Due.is("takes of two", x.person(0, 0), 7);
        Due.is("one less, one more", x.person(1, 0), 6);
        Due.is("one less, one more", x.person(2, 0), 7);
        Due.is("one more", x.person(3, 0), 9);
        Due.is("knows three", x.person(0, 1), 7);
        Due.is("times", x.person(0, 2), 1);
        Due.is("to the unseen stands still", x.between(1, 0, 2), 10);
        Due.is("of the unseen grows", x.between(0, 1, 2), 11);
        Due.is("another grows", x.between(2, 3, 2), 2);
        Due.is("none stays none", x.between(3, 2, 2), 0);
        Due.is("month", x.count(1), 1);
        Due.is("unseen", x.count(2), 0);
        // 0 can't be chosen now: 0 votes for 2 (9), 1 for 2 (0, first behind 0), 2 for 1, 3 for 1:
        // l*2-t+s*3: 1 of 2: 0, of 3: 0; 2 of 1: 2; 3 of 1: 0, of 2: 0; so 2, 2, 1, 1: the first.
        Due.is("next", x.months(1), 1);
    }

    private static void limitsOfAMonth() {
        VotedUnseen x = Due.town("090000009;900000009");
        x.sheet(2, 2, 99, 0);
        x.owes(0, 1, 999);
        x.owes(1, 0, 998);
        // Both have one vote: 0 is chosen; it takes none, as it has 99.
        Due.is("0", x.months(1), 0);
        Due.is("its own 99 at most", x.person(0, 0), 99);
        Due.is("99 at most", x.person(1, 0), 99);
        Due.is("debt 999 at most", x.between(0, 1, 2), 999);
        Due.is("debt to unseen", x.between(1, 0, 2), 998);
        x.sheet(2, 2, 0, 0);
        Due.is("1", x.months(1), 1);
        Due.is("no bread, none taken", x.person(1, 0), 0);
        Due.is("no bread, one more", x.person(0, 0), 1);
        for (int i = 0; i < 40; i++) {
            x.months(60);
        }
        Due.is("times 999 at most", x.person(0, 2), 999);
        Due.is("times of 1", x.person(1, 2), 999);
        Due.is("months go on", x.count(1), 2402);
    }

    private static void monthsWithoutSomebody() {
        VotedUnseen x = new VotedUnseen();
        Due.is("nobody at all", x.months(3), -2);
        Due.row("no row", x);
        Due.is("month", x.count(1), 3);
        VotedUnseen y = Due.town("000000003");
        Due.is("one alone", y.months(2), -2);
        Due.row("one alone", y, 0);
        Due.is("bread all the same", y.person(0, 0), 5);
        VotedUnseen z = Due.town("050000000;500000000");
        Due.is("0 first", z.months(1), 0);
        z.goes(1);
        Due.is("the only one can't be twice", z.months(1), -2);
        Due.is("nobody is unseen", z.count(2), -1);
        Due.is("away: no bread", z.person(1, 0), 1);
        VotedUnseen w = Due.town("059000003;500000003;500000003");
        w.goes(1);
        Due.is("0", w.months(1), 0);
        Due.is("away: no secret", w.person(0, 1), 1);
        Due.is("away: takes none", w.person(0, 0), 3);
        Due.is("away: gets none", w.person(1, 0), 3);
    }

    private static void tells() {
        VotedUnseen x = Due.town(THREE);
        Due.is("tells", x.tells(0, 2), 5);
        Due.is("already", x.tells(0, 2), -2);
        Due.is("its own alone", x.tells(2, 1), 6);
        Due.is("like ones", x.tells(1, 1), -1);
        Due.is("none such", x.tells(3, 0), -1);
        Due.is("none such", x.tells(0, 3), -1);
        Due.is("none such", x.tells(-1, 0), -1);
        Due.is("none such", x.tells(0, Integer.MIN_VALUE), -1);
        Due.is("two can be undone", x.count(9), 2);
        x.goes(0);
        Due.is("away ones tell too", x.tells(0, 1), 7);
        Due.row("tells no row", x);
    }

    private static void gives() {
        VotedUnseen x = Due.town(THREE);
        Due.is("gives", x.gives(0, 2, 3), 3);
        Due.is("has less", x.person(0, 0), 1);
        Due.is("not so much", x.gives(0, 2, 2), -2);
        Due.is("all of it", x.gives(2, 0, 3), 4);
        Due.is("zero", x.gives(0, 1, 0), -1);
        Due.is("below", x.gives(0, 1, -1), -1);
        Due.is("above", x.gives(0, 1, 100), -1);
        Due.is("like ones", x.gives(0, 0, 1), -1);
        Due.is("none such", x.gives(0, 3, 1), -1);
        Due.is("none such", x.gives(-1, 0, 1), -1);
        x.sheet(2, 3, 99, -1);
        Due.is("too much", x.gives(0, 1, 2), -3);
        Due.is("too much, too", x.gives(0, 1, 99), -3);
        Due.is("just 99", x.gives(0, 1, 1), 99);
        Due.is("not so much is asked first", x.gives(0, 1, 99), -2);
        Due.is("three can be undone", x.count(9), 3);
    }

    private static void owes() {
        VotedUnseen x = Due.town(THREE);
        Due.is("borrows", x.owes(0, 1, 5), 5);
        Due.is("more", x.owes(0, 1, 994), 999);
        Due.is("too much", x.owes(0, 1, 1), -3);
        Due.is("pays", x.owes(0, 1, -900), 99);
        Due.is("not so much", x.owes(0, 1, -100), -2);
        Due.is("all", x.owes(0, 1, -99), 0);
        Due.is("none", x.owes(0, 1, -1), -2);
        Due.is("most", x.owes(1, 0, 999), 999);
        Due.is("most back", x.owes(1, 0, -999), 0);
        Due.is("zero", x.owes(0, 1, 0), -1);
        Due.is("above", x.owes(0, 1, 1000), -1);
        Due.is("below", x.owes(0, 1, -1000), -1);
        Due.is("far below", x.owes(0, 1, Integer.MIN_VALUE), -1);
        Due.is("like ones", x.owes(2, 2, 1), -1);
        Due.is("none such", x.owes(0, 3, 1), -1);
        Due.is("bread aside", x.person(0, 0), 4);
        x.owes(0, 1, 5);
        Due.is("1 is unseen", x.months(1), 1);
        Due.is("of the unseen", x.owes(0, 1, 1), -4);
        Due.is("to the unseen back", x.owes(0, 1, -1), -4);
        Due.is("too much back of the unseen", x.owes(0, 1, -999), -4);
        Due.is("none is asked first", x.owes(0, 1, 0), -1);
        Due.is("like ones are asked first", x.owes(1, 1, 1), -1);
        Due.is("by the unseen", x.owes(1, 0, 1), 1);
    }

    private static void goes() {
        VotedUnseen x = Due.town(THREE);
        Due.is("goes", x.goes(2), 2);
        Due.is("here", x.count(3), 3);
        Due.is("another", x.goes(0), 1);
        Due.is("all", x.goes(1), 0);
        Due.is("comes", x.goes(2), 1);
        Due.is("here again", x.count(3), 4);
        Due.is("none such", x.goes(3), -1);
        Due.is("none such", x.goes(-1), -1);
        Due.is("none such", x.goes(Integer.MAX_VALUE), -1);
        Due.is("four can be undone", x.count(9), 4);
        VotedUnseen y = Due.town(THREE);
        y.months(1);
        Due.is("unseen", y.goes(1), -2);
        Due.is("is here", y.count(3), 7);
    }

    private static void year() {
        VotedUnseen x = Due.town(THREE);
        Due.is("nothing", Due.year(x, ""), 0);
        Due.row("nothing", x, 0, 0);
        Due.is("nothing to undo", x.count(9), 0);
        Due.is("all of them", Due.year(x, "t01g013o129p124a2m2"), 6);
        Due.row("all of them", x, 0, 2);
        Due.is("told", x.person(1, 1) & 1, 1);
        Due.is("debt in two months", x.between(1, 2, 2) >= 5, true);
        Due.is("away", x.person(2, 3), 1);
        Due.is("as one", x.count(9), 1);
        Due.is("undone", x.undo(), 0);
        Due.is("bread", x.person(0, 0), 4);
        Due.is("month", x.count(1), 0);
        Due.is("debt", x.between(1, 2, 2), 0);
        Due.is("till one is refused", Due.year(x, "t01t01m9"), 1);
        Due.row("till one is refused", x, 1, 0);
        Due.is("as one", x.count(9), 1);
        Due.is("first is refused", Due.year(x, "t33m9"), 0);
        Due.row("first is refused", x, 1, 0);
        Due.is("no more to undo", x.count(9), 1);
        Due.is("too little to pay", Due.year(x, "m1p019"), 1);
        Due.row("too little to pay", x, 1, 1);
        Due.is("gives too much", Due.year(x, "g209"), 0);
        Due.is("goes, none such", Due.year(x, "a9"), 0);
        Due.is("owes like ones", Due.year(x, "o111"), 0);
        Due.is("no months are an act", Due.year(x, "m0"), 1);
        Due.is("of undo, too", x.count(9), 3);
        VotedUnseen y = new VotedUnseen();
        Due.is("months are never refused", Due.year(y, "m3m4"), 2);
        Due.row("months are never refused", y, 0, 7);
        StringBuilder sixty = new StringBuilder();
        for (int i = 0; i < 30; i++) {
            sixty.append("m9");
        }
        Due.is("sixty", Due.year(y, sixty.toString()), 30);
        Due.row("sixty", y, 0, 277);
        Due.is("more than sixty", Due.year(y, sixty + "m"), -61);
        Due.is("more than sixty, another sign", Due.year(y, sixty + "x"), -61);
        Due.is("sixty, not whole", Due.year(y, sixty.substring(0, 58) + "t1"), -61);
        Due.is("sixty one, not whole", Due.year(y, sixty.substring(0, 58) + "t11"), -61);
        Due.is("more than sixty, an earlier fault", Due.year(y, "m9x" + sixty), -3);
        Due.is("nothing was done", y.count(1), 277);
    }

    private static void yearsThatCannotStand() {
        VotedUnseen x = Due.town(THREE);
        String[] texts = {"x", "m", "mm", "t", "t1", "tx", "t1x", "g", "g01", "g010", "g01x", "o010", "p010", "a",
            "ax", "m12", "m1;", "M1", "t012", "m9g0", "g011x", "a/", "a:"};
        int[] at = {0, 1, 1, 1, 2, 1, 2, 1, 3, 3, 3, 3, 3, 1, 1, 2, 2, 0, 3, 4, 4, 1, 1};
        for (int i = 0; i < texts.length; i++) {
            Due.is("year " + texts[i], Due.year(x, texts[i]), -1 - at[i]);
            Due.is("text is empty", x.count(11), 0);
        }
        Due.is("nothing was done", x.count(1), 0);
        Due.is("nothing to undo", x.count(9), 0);
        Due.row("no row", x);
    }

    private static void undo() {
        VotedUnseen x = Due.town(THREE);
        Due.is("none", x.undo(), -1);
        x.owes(0, 1, 7);
        x.months(2);
        x.tells(0, 1);
        x.tells(0, 1);
        x.gives(0, 1, 1);
        x.goes(9);
        Due.is("refused ones don't count", x.count(9) <= 4, true);
        for (int left = x.count(9); left > 0; left--) {
            Due.is("left", x.undo(), left - 1);
        }
        Due.is("none again", x.undo(), -1);
        int[] first = {3, 0, -1, 7, 5, 3, 0};
        for (int what = 0; what < first.length; what++) {
            Due.is("as at first, count " + what, x.count(what), first[what]);
        }
        Due.is("times as at first", x.person(1, 2), 0);

        VotedUnseen y = Due.town(THREE);
        for (int i = 0; i < 20; i++) {
            y.owes(0, 1, 1);
        }
        Due.is("15 alone", y.count(9), 15);
        for (int left = 14; left >= 0; left--) {
            Due.is("left of 15", y.undo(), left);
            Due.is("debt", y.between(0, 1, 2), 5 + left);
        }
        Due.is("no more", y.undo(), -1);
        Due.is("the first five stay", y.between(0, 1, 2), 5);
        // A refused act on a full past must not cost the oldest one.
        for (int i = 0; i < 15; i++) {
            y.owes(0, 1, 1);
        }
        y.owes(0, 1, -999);
        for (int i = 0; i < 15; i++) {
            y.undo();
        }
        Due.is("back to five", y.between(0, 1, 2), 5);
    }

    private static void whatUndoForgets() {
        VotedUnseen x = Due.town(THREE);
        x.goes(1);
        Due.people(x, "");
        Due.is("an empty text forgets none", x.count(9), 1);
        Due.people(x, "x");
        Due.is("a refused text forgets none", x.count(9), 1);
        Due.people(x, "000000000");
        Due.is("people forget all", x.count(9), 0);
        Due.is("none", x.undo(), -1);
        Due.is("away still", x.person(1, 3), 1);
        x.goes(1);
        x.again(0);
        Due.is("a refused again forgets none", x.count(9), 1);
        x.keep(0);
        Due.is("keep forgets none", x.count(9), 1);
        x.again(0);
        Due.is("again forgets all", x.count(9), 0);
        x.sheet(2, 4, 1, 0);
        x.tells(0, 1);
        x.sheet(2, 4, 9, 0);
        x.undo();
        Due.is("bread is as ahead of it", x.count(4), 4);
        // What is no part of the town stays.
        x.noticed(0, 1);
        x.tells(0, 1);
        Due.walk(x, "123");
        x.vote();
        x.undo();
        Due.is("walk stays", x.count(7), 3);
        Due.is("noticed stays", x.count(8), 1);
        Due.is("row stays", x.count(10), 4);
    }
}
