/** The edges that the promises 10 to 16 name, each sentence by itself. */
final class MonthsEdgesTest {
    private static final int LEAST = Integer.MIN_VALUE;
    private static final int MOST = Integer.MAX_VALUE;
    // 1 and 2 vote for 0, 0 votes for 1: 0 is chosen.
    private static final String THREE = "000000000;900000000;900000000";

    public static void main(String[] args) {
        monthsOutside();
        monthsAtTheirEdges();
        monthsOfNobody();
        tellsOthers();
        tellsAlready();
        givesOthers();
        givesTooMuch();
        owesOthers();
        owesToUnseen();
        owesTooMuch();
        goesOthers();
        goesUnseen();
        goesAll();
        emptyYear();
        yearThatEndsTooEarly();
        yearWithAWrongSign();
        yearOfSixty();
        yearTillOneIsRefused();
        yearOfEachRefusal();
        undoNone();
        undoFifteen();
        undoWhatWasDone();
        undoAYear();
        undoForgotten();
        Due.finish();
    }

    private static VotedUnseen three() {
        return Due.town(THREE);
    }

    /** 0 is UNSEEN; 1 owes to it. */
    private static VotedUnseen unseen() {
        VotedUnseen x = three();
        x.owes(1, 0, 5);
        x.months(1);
        return x;
    }

    private static void monthsOutside() {
        int[] outside = {-1, 61, LEAST, MOST};
        for (int n : outside) {
            Edge.refused("months " + n, Edge::busy, x -> x.months(n), -1);
        }
    }

    private static void monthsAtTheirEdges() {
        VotedUnseen none = three();
        Due.is("no MONTHS, nobody yet", none.months(0), -2);
        Due.row("no MONTHS", none, 0, 0, 0);
        Due.is("no MONTHS pass", none.count(1), 0);
        VotedUnseen again = unseen();
        Due.is("no MONTHS: UNSEEN as it is", again.months(0), 0);
        Due.row("CHOSEN in these alone", again, 0, 0, 0);
        VotedUnseen sixty = three();
        Due.is("60 MONTHS", sixty.months(60) >= 0, true);
        Due.is("60 MONTHS pass", sixty.count(1), 60);
        Due.is("60 were CHOSEN", sixty.row(0) + sixty.row(1) + sixty.row(2), 60);
        Due.is("as one", sixty.count(9), 1);
        VotedUnseen byOne = three();
        for (int i = 0; i < 60; i++) {
            byOne.months(1);
        }
        for (int what = 1; what < 7; what++) {
            Due.is("60 MONTHS are 60 of one, count " + what, sixty.count(what), byOne.count(what));
        }
        byOne.months(1);
        long of = byOne.row(0) + byOne.row(1) + byOne.row(2);
        Due.is("the ROW is of these MONTHS alone", of, 1);
    }

    private static void monthsOfNobody() {
        VotedUnseen x = Due.town(Edge.LINE);
        Due.is("one alone", x.months(60), -2);
        Due.row("one alone is not CHOSEN", x, 0);
        VotedUnseen y = unseen();
        y.goes(1);
        y.goes(2);
        Due.is("nobody but the one that was", y.months(1), -2);
        Due.row("nobody but the one that was", y, 0, 0, 0);
        VotedUnseen none = new VotedUnseen();
        Due.is("60 without PEOPLE", none.months(60), -2);
        Due.row("60 without PEOPLE", none);
    }

    private static void tellsOthers() {
        Edge.noSuch("tells", Edge::busy, (x, one) -> x.tells(one, 0));
        Edge.noSuch("is told", Edge::busy, (x, one) -> x.tells(0, one));
        for (int one = 0; one < 4; one++) {
            int like = one;
            Edge.refused("tells itself", Edge::busy, x -> x.tells(like, like), -1);
        }
    }

    private static void tellsAlready() {
        VotedUnseen x = three();
        Due.is("tells", x.tells(2, 0), 5);
        Due.is("its own SECRET alone", x.tells(0, 1), 3);
        Due.is("the other one does not know", x.person(2, 1), 4);
        Edge.refused("it knows already", () -> {
            VotedUnseen y = Edge.busy();
            y.tells(1, 2);
            return y;
        }, y -> y.tells(1, 2), -2);
        // UNSEEN has heard 1 on its WALK.
        Edge.refused("it has heard already", MonthsEdgesTest::unseen, y -> y.tells(1, 0), -2);
    }

    private static void givesOthers() {
        Edge.noSuch("gives", Edge::busy, (x, one) -> x.gives(one, 0, 1));
        Edge.noSuch("is given", Edge::busy, (x, one) -> x.gives(0, one, 1));
        int[] outside = {0, -1, 100, LEAST, MOST};
        for (int n : outside) {
            Edge.refused("gives " + n, Edge::busy, x -> x.gives(0, 1, n), -1);
        }
        for (int one = 0; one < 4; one++) {
            int like = one;
            Edge.refused("gives itself", Edge::busy, x -> x.gives(like, like, 1), -1);
        }
    }

    private static VotedUnseen withBread(int first, int second) {
        VotedUnseen x = three();
        x.sheet(2, 2, first, second - first);
        return x;
    }

    private static void givesTooMuch() {
        Due.is("gives all that there is", withBread(7, 0).gives(0, 1, 7), 7);
        Edge.refused("gives one more than there is", () -> withBread(7, 0), x -> x.gives(0, 1, 8), -2);
        Edge.refused("gives of none", () -> withBread(0, 0), x -> x.gives(0, 1, 1), -2);
        Due.is("gives up to 99", withBread(7, 92).gives(0, 1, 7), 99);
        Edge.refused("gives up to 100", () -> withBread(7, 93), x -> x.gives(0, 1, 7), -3);
        Edge.refused("gives to 99", () -> withBread(7, 99), x -> x.gives(0, 1, 1), -3);
        Due.is("gives 99", withBread(99, 0).gives(0, 1, 99), 99);
        Edge.refused("not so much, and too much", () -> withBread(7, 99), x -> x.gives(0, 1, 8), -2);
        VotedUnseen x = withBread(7, 3);
        x.gives(0, 1, 1);
        Due.is("the giver has less", x.person(0, 0), 6);
    }

    private static void owesOthers() {
        Edge.noSuch("owes", Edge::busy, (x, one) -> x.owes(one, 0, 1));
        Edge.noSuch("is owed", Edge::busy, (x, one) -> x.owes(0, one, 1));
        int[] outside = {0, 1000, -1000, LEAST, MOST};
        for (int n : outside) {
            Edge.refused("owes " + n, Edge::busy, x -> x.owes(0, 1, n), -1);
        }
        for (int one = 0; one < 4; one++) {
            int like = one;
            Edge.refused("owes itself", Edge::busy, x -> x.owes(like, like, 1), -1);
        }
    }

    private static void owesToUnseen() {
        int[] amounts = {1, 999, -1, -5, -6, -999};
        for (int n : amounts) {
            Edge.refused("owes " + n + " to UNSEEN", MonthsEdgesTest::unseen, x -> x.owes(1, 0, n), -4);
        }
        int[] outside = {0, 1000, -1000};
        for (int n : outside) {
            Edge.refused("NONE is asked ahead of UNSEEN, " + n, MonthsEdgesTest::unseen, x -> x.owes(1, 0, n), -1);
        }
        Edge.refused("none such owes to UNSEEN", MonthsEdgesTest::unseen, x -> x.owes(3, 0, 1), -1);
        Edge.refused("UNSEEN owes to itself", MonthsEdgesTest::unseen, x -> x.owes(0, 0, 1), -1);
        Due.is("UNSEEN owes to another one", unseen().owes(0, 1, 1), 1);
        VotedUnseen later = unseen();
        later.months(1);
        Due.is("it is not UNSEEN any more", later.owes(1, 0, -1), 5);
    }

    private static VotedUnseen withDebt(int n) {
        VotedUnseen x = three();
        x.owes(0, 1, n);
        return x;
    }

    private static void owesTooMuch() {
        Due.is("borrows 1", three().owes(0, 1, 1), 1);
        Due.is("borrows 999", three().owes(0, 1, 999), 999);
        Due.is("borrows up to 999", withDebt(990).owes(0, 1, 9), 999);
        Edge.refused("borrows up to 1000", () -> withDebt(990), x -> x.owes(0, 1, 10), -3);
        Edge.refused("borrows 1 at 999", () -> withDebt(999), x -> x.owes(0, 1, 1), -3);
        Edge.refused("borrows 999 at 999", () -> withDebt(999), x -> x.owes(0, 1, 999), -3);
        Due.is("pays all back", withDebt(7).owes(0, 1, -7), 0);
        Due.is("pays 999 back", withDebt(999).owes(0, 1, -999), 0);
        Edge.refused("pays one too many back", () -> withDebt(7), x -> x.owes(0, 1, -8), -2);
        Edge.refused("pays 999 of 998 back", () -> withDebt(998), x -> x.owes(0, 1, -999), -2);
        Edge.refused("pays of none", MonthsEdgesTest::three, x -> x.owes(0, 1, -1), -2);
        Edge.refused("pays what is owed the other way", () -> withDebt(7), x -> x.owes(1, 0, -1), -2);
    }

    private static void goesOthers() {
        Edge.noSuch("goes", Edge::busy, VotedUnseen::goes);
    }

    private static void goesUnseen() {
        Edge.refused("UNSEEN can't go", MonthsEdgesTest::unseen, x -> x.goes(0), -2);
        VotedUnseen later = unseen();
        later.months(1);
        Due.is("one who is not UNSEEN any more can", later.goes(0), 2);
        VotedUnseen first = three();
        Due.is("one who is not UNSEEN yet can", first.goes(0), 2);
    }

    private static void goesAll() {
        VotedUnseen x = Due.town(Edge.lines(8));
        for (int one = 0; one < 8; one++) {
            Due.is("goes " + one, x.goes(one), 7 - one);
        }
        Due.is("none is HERE", x.count(3), 0);
        for (int one = 7; one >= 0; one--) {
            Due.is("comes " + one, x.goes(one), 8 - one);
        }
        Due.is("all are HERE", x.count(3), 255);
    }

    private static void emptyYear() {
        Edge.Make busyWithoutText = () -> {
            VotedUnseen x = Edge.busy();
            x.end(0);
            return x;
        };
        Edge.question("an empty year", busyWithoutText, VotedUnseen::year, 0, 0, 2);
        Edge.question("an empty year of nobody", Edge::empty, VotedUnseen::year, 0, 0, 0);
    }

    private static void yearThatEndsTooEarly() {
        String text = "m1t01g011o011p011a1";
        boolean[] whole = new boolean[text.length() + 1];
        int[] ends = {2, 5, 9, 13, 17, 19};
        for (int end : ends) {
            whole[end] = true;
        }
        for (int n = 1; n <= text.length(); n++) {
            String begun = text.substring(0, n);
            if (whole[n]) {
                Due.is("year " + begun, Due.year(three(), begun) >= 0, true);
            } else {
                Edge.refusedText("year " + begun, Edge::busy, begun, VotedUnseen::year, -1 - n);
            }
        }
    }

    private static void yearWithAWrongSign() {
        String text = "m1t01g011o011p011a1";
        String[] wrong = {"x", "/", ":", " ", "\u00ff", "\0"};
        for (int at = 0; at < text.length(); at++) {
            for (String sign : wrong) {
                String told = text.substring(0, at) + sign + text.substring(at + 1);
                Edge.refusedText("year " + told, Edge::busy, told, VotedUnseen::year, -1 - at);
            }
        }
        String[] texts = {"g010", "o010", "p010", "m1g010", "m1 m1", "m1m", "m10", "t012", "g0111", "a12", "1", "M1",
            "s0", "mm", "t0m", "g01m", "am"};
        int[] at = {3, 3, 3, 5, 2, 3, 2, 3, 4, 2, 0, 0, 0, 1, 2, 3, 1};
        for (int i = 0; i < texts.length; i++) {
            Edge.refusedText("year " + texts[i], Edge::busy, texts[i], VotedUnseen::year, -1 - at[i]);
        }
    }

    private static void yearOfSixty() {
        String sixty = "m1".repeat(30);
        VotedUnseen x = three();
        Due.is("60 signs", Due.year(x, sixty), 30);
        Due.row("60 signs", x, 0, 30);
        VotedUnseen y = three();
        Due.is("60 signs, the last a g", Due.year(y, "m1".repeat(28) + "g121"), 29);
        String[] more = {"m", "m1", "x", "1", "m1m1m1m1m1m1m1m1m1m1"};
        for (String signs : more) {
            Edge.refusedText("more than 60", Edge::busy, sixty + signs, VotedUnseen::year, -61);
        }
        Edge.refusedText("60 signs that end too early", Edge::busy, "m1".repeat(29) + "t1", VotedUnseen::year, -61);
        Edge.refusedText("61 signs, the act at 60 not whole", Edge::busy, "m1".repeat(29) + "t11",
            VotedUnseen::year, -61);
        Edge.refusedText("61 signs, a fault at 59", Edge::busy, "m1".repeat(29) + "mx1", VotedUnseen::year, -60);
        Edge.refusedText("80 signs, a fault at 0", Edge::busy, "x" + "m1".repeat(39), VotedUnseen::year, -1);
        VotedUnseen short58 = three();
        Due.is("58 signs", Due.year(short58, "m1".repeat(29)), 29);
    }

    private static void yearTillOneIsRefused() {
        VotedUnseen x = three();
        Due.is("two are done", Due.year(x, "t01m2t01m9"), 2);
        Due.row("one was refused, MONTH then", x, 1, 2);
        Due.is("what was done stays", x.person(1, 1) & 1, 1);
        Due.is("nothing behind it is done", x.count(1), 2);
        Due.is("as one", x.count(9), 1);
        VotedUnseen last = three();
        Due.is("the last is refused", Due.year(last, "m1a9"), 1);
        Due.row("the last is refused", last, 1, 1);
        VotedUnseen first = three();
        Due.is("the first is refused", Due.year(first, "a9m1"), 0);
        Due.row("the first is refused", first, 1, 0);
        Due.is("none is to be undone", first.count(9), 0);
        VotedUnseen all = three();
        Due.is("all are done", Due.year(all, "m0m1"), 2);
        Due.row("none was refused", all, 0, 1);
        VotedUnseen nobody = new VotedUnseen();
        Due.is("months of nobody are not refused", Due.year(nobody, "m9m9"), 2);
        Due.row("months of nobody are not refused", nobody, 0, 18);
    }

    private static void yearOfEachRefusal() {
        // In unseen() 0 is UNSEEN, has 0 and knows 0 and 1; 1 has 1, owes 5 to 0; 2 has 1.
        String[] refused = {"t00", "t03", "t30", "t80", "t09", "t10", "g001", "g031", "g301", "g129", "g011", "o001",
            "o031", "o301", "o101", "p101", "p011", "p121", "a3", "a8", "a9", "a0"};
        for (String act : refused) {
            VotedUnseen x = unseen();
            Due.is("refused " + act, Due.year(x, act), 0);
            Due.row("refused " + act, x, 1, 1);
            Due.is("nothing more to undo by " + act, x.count(9), 2);
            Due.is("refused behind another " + act, Due.year(x, "m0" + act), 1);
            Due.row("refused behind another " + act, x, 1, 1);
        }
        String[] fine = {"m0", "m9", "t01", "t20", "t12", "g121", "g101", "o011", "o129", "a1", "a2"};
        for (String act : fine) {
            VotedUnseen x = unseen();
            Due.is("done " + act, Due.year(x, act), 1);
            Due.is("done " + act + ", none refused", x.row(0), 0);
            Due.is("one more to undo by " + act, x.count(9), 3);
        }
        VotedUnseen x = unseen();
        Due.is("borrows 9, pays 9 back", Due.year(x, "o129p129p121"), 2);
        Due.is("DEBT by it", x.between(1, 2, 2), 0);
        VotedUnseen full = withDebt(995);
        Due.is("would be above 999", Due.year(full, "o014o011"), 1);
        Due.is("999", full.between(0, 1, 2), 999);
        VotedUnseen bread = withBread(9, 95);
        Due.is("would be above 99", Due.year(bread, "g014g011"), 1);
        Due.is("99", bread.person(1, 0), 99);
    }

    private static void undoNone() {
        Edge.refused("undo of none", MonthsEdgesTest::three, VotedUnseen::undo, -1);
        Edge.refused("undo when all is undone", () -> {
            VotedUnseen x = three();
            x.months(3);
            x.undo();
            return x;
        }, VotedUnseen::undo, -1);
    }

    private static void undoFifteen() {
        for (int acts = 1; acts <= 17; acts++) {
            VotedUnseen x = three();
            for (int i = 0; i < acts; i++) {
                x.owes(0, 1, 1);
            }
            int kept = Math.min(acts, 15);
            Due.is("kept of " + acts, x.count(9), kept);
            for (int left = kept - 1; left >= 0; left--) {
                Due.is("undo of " + acts, x.undo(), left);
                Due.is("DEBT then", x.between(0, 1, 2), acts - kept + left);
            }
            Due.is("no more of " + acts, x.undo(), -1);
            Due.is("the first ones stay done", x.between(0, 1, 2), acts - kept);
        }
        VotedUnseen x = three();
        for (int i = 0; i < 40; i++) {
            x.owes(0, 1, 1);
            x.owes(0, 1, 1);
            x.undo();
        }
        Due.is("done and undone around", x.between(0, 1, 2), 40);
        Due.is("14 of 15 are left", x.count(9), 14);
        for (int left = 13; left >= 0; left--) {
            x.undo();
            Due.is("back around", x.between(0, 1, 2), 26 + left);
        }
    }

    private static void undoWhatWasDone() {
        // In busy() 2 is UNSEEN, 3 AWAY; 0 has two votes, 1 one.
        Edge.On[] acts = {x -> x.months(0), x -> x.months(60), x -> x.tells(0, 1), x -> x.gives(1, 2, 1),
            x -> x.owes(2, 1, 999), x -> x.owes(2, 3, -1), x -> x.goes(3), x -> x.goes(1), x -> Due.year(x, "m9"),
            x -> Due.year(x, "m1a9")};
        for (int i = 0; i < acts.length; i++) {
            Edge.On act = acts[i];
            int before = Edge.busy().count(9);
            Edge.question("act " + i + " and undo", () -> {
                VotedUnseen x = Edge.busy();
                x.end(0);
                return x;
            }, x -> {
                act.on(x);
                long left = x.undo();
                x.vote();
                return left;
            }, before, 2, 1, 0, 0);
        }
        VotedUnseen paid = withDebt(7);
        Due.is("an act that answers 0", paid.owes(0, 1, -7), 0);
        Due.is("was done", paid.undo(), 1);
        Due.is("and is undone", paid.between(0, 1, 2), 7);
        VotedUnseen gone = Due.town(Edge.LINE);
        Due.is("the last goes", gone.goes(0), 0);
        Due.is("the last is undone", gone.undo(), 0);
        Due.is("the last is HERE", gone.count(3), 1);
        Edge.On[] refused = {x -> x.months(61), x -> x.tells(0, 0), x -> x.gives(0, 1, 99), x -> x.owes(0, 1, -1),
            x -> x.goes(9), VotedUnseen::vote, x -> x.ahead(3), x -> x.years(1, 5), x -> x.sheet(2, 4, 5, 0),
            x -> x.keep(0) ? 1 : 0, x -> x.noticed(0, 0), x -> Due.year(x, ""), x -> Due.year(x, "a9"),
            x -> Due.year(x, "x"), x -> Due.walk(x, "1"), x -> Due.rule(x, "l")};
        for (int i = 0; i < refused.length; i++) {
            VotedUnseen x = three();
            x.goes(1);
            refused[i].on(x);
            Due.is("not to be undone " + i, x.count(9), 1);
            x.undo();
            Due.is("what was done ahead of it is", x.count(3), 7);
        }
    }

    private static void undoAYear() {
        VotedUnseen x = three();
        x.sheet(2, 3, 5, 0);
        Due.is("six acts", Due.year(x, "t01g121o019a2m3a2"), 6);
        Due.is("are one", x.count(9), 1);
        Due.is("undone as one", x.undo(), 0);
        int[] first = {3, 0, -1, 7, 15, 3, 0};
        for (int what = 0; what < first.length; what++) {
            Due.is("as ahead of the year, count " + what, x.count(what), first[what]);
        }
        for (int one = 0; one < 3; one++) {
            Due.is("TIMES as ahead of the year", x.person(one, 2), 0);
            Due.is("BREAD as ahead of the year", x.person(one, 0), 5);
        }
    }

    private static VotedUnseen withPast() {
        VotedUnseen x = three();
        x.keep(0);
        x.goes(1);
        x.owes(0, 1, 3);
        return x;
    }

    private static void undoForgotten() {
        Edge.refusedText("an empty people() forgets none", MonthsEdgesTest::withPast, "", VotedUnseen::people, 0);
        Edge.refusedText("a refused people() forgets none", MonthsEdgesTest::withPast, "1", VotedUnseen::people, -2);
        Edge.refused("a refused again() forgets none", MonthsEdgesTest::withPast, x -> x.again(1) ? 1 : 0, 0);
        VotedUnseen came = withPast();
        Due.is("one comes", Due.people(came, Edge.LINE), 1);
        Due.is("people() forgets all", came.undo(), -1);
        Due.is("what was done stays", came.count(3), 13);
        VotedUnseen again = withPast();
        Due.is("again", again.again(0), true);
        Due.is("again() forgets all", again.undo(), -1);
        Due.is("again() brought back", again.count(3), 7);
        again.goes(2);
        Due.is("a new act can be undone", again.undo(), 0);
        Due.is("and is", again.count(3), 7);
    }
}
