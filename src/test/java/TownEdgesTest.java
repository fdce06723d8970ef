/** The edges of A VOTE, A MONTH ('Terms' 1) and of the ROW, fractions, questions ('Terms' 2). */
final class TownEdgesTest {
    // 1 and 2 vote for 0, 0 votes for 1: 0 is chosen.
    private static final String THREE = "000000000;900000000;900000000";
    private static final String TWO = "000000000;000000000";

    public static void main(String[] args) {
        voteOfEqualOnes();
        voteOfNobody();
        voteOfThoseWhoAreHere();
        chosenOfEqualOnes();
        neverTwiceRunning();
        timesAtMost();
        walkToItselfOrToOneAway();
        walkByHowManyPeople();
        takesBreadIfThereIsAny();
        takesNoneAtItsMost();
        hearsAllThatIsKnown();
        breadOfAMonth();
        debtsOfAMonth();
        monthWithoutUnseen();
        rowStays();
        fractions();
        Due.finish();
    }

    private static VotedUnseen three(int bread, int step, String walk) {
        VotedUnseen x = Due.town(THREE);
        x.sheet(2, 3, bread, step);
        Due.walk(x, walk);
        return x;
    }

    private static void voteOfEqualOnes() {
        VotedUnseen x = Due.town(Edge.lines(4));
        int[] votes = {1, 0, 0, 0};
        for (int one = 0; one < 4; one++) {
            Due.is("of equal GLADNESS the first other one", x.person(one, 4), votes[one]);
        }
        VotedUnseen y = Due.town("055000000;000000000;000000000");
        Due.is("of equal ones the first", y.person(0, 4), 1);
        VotedUnseen z = Due.town("056000000;000000000;000000000");
        Due.is("a later one who is more", z.person(0, 4), 2);
    }

    private static void voteOfNobody() {
        VotedUnseen alone = Due.town(Edge.LINE);
        Due.is("one alone votes for nobody", alone.person(0, 4), -1);
        VotedUnseen x = Due.town(TWO);
        x.months(1);
        Due.is("0 is UNSEEN", x.count(2), 0);
        Due.is("UNSEEN votes", x.person(0, 4), 1);
        Due.is("there is UNSEEN alone beside it", x.person(1, 4), -1);
        x.goes(1);
        Due.is("there is nobody beside UNSEEN", x.person(0, 4), -1);
        Due.is("nobody, if there are no votes", x.vote(), -2);
        Due.row("no votes", x, 0, 0);
    }

    private static void voteOfThoseWhoAreHere() {
        VotedUnseen x = Due.town("000900000;900000000;900000000;900000000");
        Due.is("3 votes", x.person(3, 4), 0);
        Due.is("3 is voted for", x.person(0, 4), 3);
        x.goes(3);
        Due.is("3 is AWAY and votes for nobody", x.person(3, 4), -1);
        Due.is("3 is AWAY and nobody votes for it", x.person(0, 4), 1);
        x.goes(3);
        Due.is("3 is HERE again", x.person(0, 4), 3);
    }

    private static void chosenOfEqualOnes() {
        // 0 for 2, 1 for 2, 2 for 1, 3 for 1: 1 and 2 have two votes each.
        VotedUnseen x = Due.town("009000000;009000000;090000000;090000000");
        Due.is("of equal ones the first is CHOSEN", x.vote(), 1);
        Due.row("two each", x, 0, 2, 2, 0);
        Due.people(x, "009000000");
        Due.is("one vote more", x.vote(), 2);
        Due.row("one vote more", x, 0, 2, 3, 0, 0);
    }

    private static void neverTwiceRunning() {
        VotedUnseen x = Due.town(THREE);
        Due.is("0", x.months(1), 0);
        Due.is("not 0 again", x.months(1), 1);
        Due.is("0 again", x.months(1), 0);
        VotedUnseen y = Due.town(TWO);
        y.months(1);
        y.goes(1);
        Due.is("UNSEEN alone can't be again", y.months(1), -2);
        Due.is("TIMES of it stay", y.person(0, 2), 1);
        y.goes(1);
        Due.is("after a month of nobody it can be", y.months(1), 0);
    }

    private static void timesAtMost() {
        VotedUnseen x = Due.town(TWO);
        for (int i = 0; i < 33; i++) {
            x.months(60);
        }
        x.months(15);
        Due.is("998 TIMES", x.person(0, 2), 998);
        Due.is("997 TIMES", x.person(1, 2), 997);
        x.months(2);
        Due.is("999 TIMES", x.person(0, 2), 999);
        Due.is("998 TIMES of 1", x.person(1, 2), 998);
        x.months(2);
        Due.is("999 TIMES at most", x.person(0, 2), 999);
        Due.is("999 TIMES of 1", x.person(1, 2), 999);
        Due.is("CHOSEN beyond 999", x.months(4), 0);
        Due.row("CHOSEN is told beyond 999", x, 2, 2);
        Due.is("999 TIMES at most of 1", x.person(1, 2), 999);
    }

    private static void walkToItselfOrToOneAway() {
        VotedUnseen itself = three(5, 0, "3");
        itself.months(1);
        Due.is("comes to itself: knows nothing more", itself.person(0, 1), 1);
        Due.is("comes to itself: takes nothing", itself.count(4), 17);
        Due.is("comes to itself: has what it had", itself.person(0, 0), 5);
        VotedUnseen away = three(5, 0, "1");
        away.goes(1);
        Due.is("0 is UNSEEN", away.months(1), 0);
        Due.is("comes to one AWAY: knows nothing more", away.person(0, 1), 1);
        Due.is("comes to one AWAY: takes nothing", away.person(1, 0), 5);
        Due.is("comes to one AWAY: has what it had", away.person(0, 0), 5);
    }

    private static void walkByHowManyPeople() {
        int[][] heard = {{1}, {3, 3}, {3, 6, 5}};
        for (int n = 1; n <= 3; n++) {
            VotedUnseen x = Due.town(Edge.lines(n));
            for (int one = 0; one < n; one++) {
                Due.is("by the rest, " + one + " of " + n, x.hears(one), heard[n - 1][one]);
            }
        }
        VotedUnseen seven = Due.town(Edge.lines(7));
        Due.walk(seven, "7");
        Due.is("7 of seven is itself", seven.hears(2), 4);
        Due.people(seven, Edge.LINE);
        Due.is("7 of eight is the one ahead", seven.hears(2), 6);
        Due.is("7 of eight, from the first", seven.hears(0), 129);
    }

    private static void takesBreadIfThereIsAny() {
        VotedUnseen none = three(0, 0, "1");
        none.months(1);
        Due.is("there is none: takes none", none.person(0, 0), 0);
        Due.is("there is none: not below 0", none.person(1, 0), 1);
        VotedUnseen one = Due.town(THREE.replace("900000000;900000000", "900000001;900000000"));
        Due.walk(one, "1111");
        one.months(1);
        Due.is("there is one: takes it once", one.person(0, 0), 1);
        Due.is("there is one: 0 left, and 1 more", one.person(1, 0), 1);
        Due.is("another has 1 more", one.person(2, 0), 1);
    }

    private static void takesNoneAtItsMost() {
        VotedUnseen x = three(98, -93, "12");
        // 98, 5, 0, then 98, 3, 2.
        x.gives(1, 2, 2);
        x.months(1);
        Due.is("98 and one more", x.person(0, 0), 99);
        Due.is("one less and one more", x.person(1, 0), 3);
        Due.is("99: takes none", x.person(2, 0), 3);
        Due.is("99: hears all the same", x.person(0, 1), 7);
        VotedUnseen y = three(99, -90, "1");
        y.months(1);
        Due.is("99 stays 99", y.person(0, 0), 99);
        Due.is("none taken", y.person(1, 0), 10);
        Due.is("heard", y.person(0, 1), 3);
    }

    private static void hearsAllThatIsKnown() {
        VotedUnseen x = three(0, 0, "1");
        x.tells(2, 1);
        x.months(1);
        Due.is("all SECRETS that that one knows", x.person(0, 1), 7);
        Due.is("that one hears nothing", x.person(1, 1), 6);
    }

    private static void breadOfAMonth() {
        VotedUnseen x = Due.town("000000000;900000000;900000000;900000000;900000000");
        Due.walk(x, "5");
        x.sheet(2, 5, 96, 1);
        // 96, 97, 98, 99, 99.
        x.goes(1);
        x.months(1);
        int[] then = {96, 97, 99, 99, 99};
        for (int one = 0; one < 5; one++) {
            Due.is("BREAD of " + one + " (0 UNSEEN, 1 AWAY)", x.person(one, 0), then[one]);
        }
    }

    private static void debtsOfAMonth() {
        VotedUnseen x = Due.town("000000000;900000000;900000000;900000000;900000000");
        x.owes(1, 0, 5);
        x.owes(0, 1, 5);
        x.owes(3, 4, 1);
        x.owes(1, 2, 998);
        x.owes(2, 1, 999);
        x.goes(3);
        x.goes(4);
        Due.is("0 is UNSEEN", x.months(1), 0);
        Due.is("to UNSEEN: stands still", x.between(1, 0, 2), 5);
        Due.is("of UNSEEN: 1 more", x.between(0, 1, 2), 6);
        Due.is("of one AWAY to one AWAY: 1 more", x.between(3, 4, 2), 2);
        Due.is("998: 1 more", x.between(1, 2, 2), 999);
        Due.is("999 at most", x.between(2, 1, 2), 999);
        Due.is("0 stays 0", x.between(4, 3, 2), 0);
        Due.is("no other came", x.count(6), 5 + 6 + 2 + 999 + 999);
    }

    private static void monthWithoutUnseen() {
        VotedUnseen none = new VotedUnseen();
        none.months(1);
        Due.is("MONTH without PEOPLE", none.count(1), 1);
        Due.is("UNSEEN without PEOPLE", none.count(2), -1);
        VotedUnseen x = Due.town("000000004;000000004");
        x.owes(0, 1, 1);
        x.owes(1, 0, 1);
        x.goes(1);
        Due.is("nobody", x.months(1), -2);
        Due.is("BREAD of the one who is HERE", x.person(0, 0), 5);
        Due.is("BREAD of the one who is AWAY", x.person(1, 0), 4);
        Due.is("a DEBT, nobody UNSEEN", x.between(0, 1, 2), 2);
        Due.is("the other DEBT, nobody UNSEEN", x.between(1, 0, 2), 2);
        x.goes(0);
        x.months(1);
        Due.is("all are AWAY: no BREAD", x.count(4), 9);
        Due.is("all are AWAY: DEBTS grow", x.count(6), 6);
        Due.is("all are AWAY: MONTH", x.count(1), 2);
    }

    /** Calls that say nothing of the ROW leave it. */
    private static void rowStays() {
        VotedUnseen x = Edge.four();
        x.vote();
        Edge.On[] calls = {y -> y.sign(0x31313131), y -> y.end(1) ? 1 : 0, VotedUnseen::walk, VotedUnseen::people,
            y -> Due.rule(y, "l"), y -> y.person(0, 0), y -> y.between(0, 1, 0), y -> y.sheet(2, 4, 5, 0),
            y -> y.tells(0, 1), y -> y.gives(0, 1, 1), y -> y.owes(0, 1, 1), y -> y.goes(3), VotedUnseen::undo,
            y -> y.noticed(0, 0), VotedUnseen::forget, y -> y.keep(0) ? 1 : 0, y -> y.again(0) ? 1 : 0,
            y -> y.count(0), y -> y.row(0), y -> Due.people(y, Edge.LINE)};
        for (int i = 0; i < calls.length; i++) {
            calls[i].on(x);
            Due.row("after call " + i + " that tells none", x, 3, 0, 1, 0);
        }
    }

    private static void fractions() {
        VotedUnseen x = Due.town("000000002;000000001;000000001");
        // More than 2 of 4: 0 with 1, with 2, with both; 1 with 0 alone; 2 likewise.
        Due.is("power", x.power(0), 3);
        Due.row("lowest terms already", x, 3, 5);
        x.sheet(2, 3, 2, 0);
        x.power(1);
        Due.row("2 by 6 in lowest terms", x, 1, 3);
        x.sheet(2, 1, 2, 0);
        x.power(1);
        Due.row("0 by 4 is 0 by 1", x, 0, 1);
        x.sheet(3, 0, 0, 0);
        x.power(1);
        Due.row("0 by 0 is 0 by 1", x, 0, 1);
        x.likely(0, 10);
        Due.row("all is 1 by 1", x, 1, 1);
        x.likely(0, 0);
        Due.row("none is 0 by 1", x, 0, 1);
    }
}
