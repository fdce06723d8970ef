/** The edges that 'Terms' 1 and 2 name, each sentence by itself. */
final class TermsEdgesTest {
    // 1 and 2 vote for 0, 0 votes for 1: 0 is chosen.
    private static final String THREE = "000000000;900000000;900000000";
    private static final String TWO = "000000000;000000000";
    // 0 likes 1 by 5 and has 0 of bread; 1 has 7 of bread.
    private static final String GLAD = "050000000;000000007";

    public static void main(String[] args) {
        eightPeople();
        likingFromNoneToNine();
        likingOfLaterOnes();
        ownLikingDoesNotCount();
        breadAtFirst();
        secretsTimesHereDebtsAtFirst();
        walkAtFirst();
        ruleAtFirst();
        comparisons();
        sumsAndProducts();
        divisionByNone();
        divisionIsCut();
        minusAhead();
        numbers();
        brackets();
        thingsOfTwo();
        monthByTwelve();
        gladnessAsInts();
        Due.finish();
    }

    private static void eightPeople() {
        VotedUnseen x = Due.town(Edge.lines(7));
        Due.is("an eighth of PEOPLE", Due.people(x, Edge.LINE), 1);
        Due.is("eight PEOPLE", x.count(0), 8);
        Edge.refusedText("a ninth of PEOPLE", () -> Due.town(Edge.lines(8)), Edge.LINE, y -> y.people(), -1);
    }

    private static void likingFromNoneToNine() {
        VotedUnseen x = Due.town("000000000;909090909");
        Due.is("LIKING 0", x.between(0, 1, 0), 0);
        Due.is("LIKING 9", x.between(1, 0, 0), 9);
        Edge.refusedText("a sign ahead of 0 as LIKING", Edge::empty, "/00000000", z -> z.people(), -1);
        Edge.refusedText("a sign behind 9 as LIKING", Edge::empty, ":00000000", z -> z.people(), -1);
    }

    private static void likingOfLaterOnes() {
        VotedUnseen x = Due.town("012345678");
        for (int other = 1; other < 8; other++) {
            int later = other;
            Due.missing("LIKING for one who has not come", () -> x.between(0, later, 0));
            Due.people(x, Edge.LINE);
            Due.is("LIKING for one who came later", x.between(0, later, 0), later);
        }
    }

    private static void ownLikingDoesNotCount() {
        VotedUnseen x = Due.town("900000000;090000000;009000000");
        Due.is("0 does not vote for itself", x.person(0, 4), 1);
        Due.is("1 does not vote for itself", x.person(1, 4), 0);
        Due.is("no pair by own LIKING", x.pairs(), 0);
    }

    private static void breadAtFirst() {
        VotedUnseen x = Due.town("000000000;000000009");
        Due.is("BREAD 0", x.person(0, 0), 0);
        Due.is("BREAD 9", x.person(1, 0), 9);
        Edge.refusedText("a sign ahead of 0 as BREAD", Edge::empty, "00000000/", z -> z.people(), -9);
        Edge.refusedText("a sign behind 9 as BREAD", Edge::empty, "00000000:", z -> z.people(), -9);
    }

    private static void secretsTimesHereDebtsAtFirst() {
        VotedUnseen x = Due.town(Edge.lines(8));
        for (int one = 0; one < 8; one++) {
            Due.is("its own SECRET alone", x.person(one, 1), 1 << one);
            Due.is("TIMES at first", x.person(one, 2), 0);
            Due.is("HERE at first", x.person(one, 3), 0);
            Due.is("DEBTS of it at first", x.person(one, 5), 0);
            Due.is("DEBTS to it at first", x.person(one, 6), 0);
        }
        VotedUnseen y = Due.town(THREE);
        y.months(1);
        y.goes(1);
        Due.people(y, Edge.LINE);
        Due.is("one who comes later knows its own alone", y.person(3, 1), 8);
        Due.is("one who comes later is HERE", y.count(3), 13);
        Due.is("UNSEEN stays as others come", y.count(2), 0);
        Due.is("MONTH stays as others come", y.count(1), 1);
        Due.is("MONTH at first", x.count(1), 0);
        Due.is("UNSEEN at first", x.count(2), -1);
    }

    private static void walkAtFirst() {
        VotedUnseen x = Due.town(Edge.lines(4));
        Due.is("one digit", x.count(7), 1);
        Due.is("it is 1", x.hears(0), 3);
        Due.is("the last comes to the first", x.hears(3), 9);
    }

    private static void ruleAtFirst() {
        VotedUnseen x = Edge.four();
        x.tells(1, 0);
        x.months(1);
        Due.is("l*2", x.between(2, 1, 1), 2);
        Due.is("l*2-t", x.between(3, 0, 1), 17);
        Due.is("l*2-t+s*3", x.between(1, 0, 1), 20);
        Due.rule(x, "7");
        Due.rule(x, "");
        Due.is("none is as at first", x.between(1, 0, 1), 20);
    }

    private static void glad(String rule, int want) {
        VotedUnseen x = Due.town(GLAD);
        Due.is("rule " + rule, Due.rule(x, rule), 0);
        Due.is("GLADNESS by " + rule, x.between(0, 1, 1), want);
    }

    private static void cannotStand(String rule, int at) {
        Edge.refusedText("rule " + rule, Edge::busy, rule, x -> x.rule(), -1 - at);
        Edge.refusedText("law " + rule, Edge::busy, rule, x -> x.law(), -10000 - at);
    }

    private static void comparisons() {
        glad("5<5", 0);
        glad("4<5", 1);
        glad("5>5", 0);
        glad("5>4", 1);
        glad("5=5", 1);
        glad("5=4", 0);
        glad("-5<-4", 1);
        // They bind least.
        glad("1+1<1+2", 1);
        glad("2*3=3*2", 1);
        glad("3-1>1", 1);
        // Not one behind the other, but in ( ).
        cannotStand("1<2<3", 3);
        cannotStand("1=1>0", 3);
        cannotStand("(1>0=1)", 4);
        cannotStand("1<2+3<4", 5);
        glad("(1<2)<3", 1);
        glad("1<(2<3)", 0);
        glad("(1<2)=(2<3)", 1);
        // Two of them: none may miss.
        cannotStand("<1", 0);
        cannotStand("1<", 2);
        cannotStand("1<>2", 2);
    }

    private static void sumsAndProducts() {
        glad("1-2-3", -4);
        glad("1-2+3", 2);
        glad("1-(2-3)", 2);
        glad("100/10/5", 2);
        glad("3/4*4", 0);
        glad("4*3/4", 3);
        glad("100/(10/5)", 50);
        glad("2+3*4", 14);
        glad("2*3-4", 2);
        glad("9-8/4", 7);
        cannotStand("+1", 0);
        cannotStand("1+", 2);
        cannotStand("1+*2", 2);
        cannotStand("*1", 0);
        cannotStand("1/", 2);
        cannotStand("1*/2", 2);
    }

    private static void divisionByNone() {
        glad("7/0", 0);
        glad("-7/0", 0);
        glad("0/0", 0);
        glad("7/(l-5)", 0);
        glad("7/0+1", 1);
        glad("3*5/0*2", 0);
        glad("7/1", 7);
        glad("7/-1", -7);
    }

    private static void divisionIsCut() {
        glad("7/2", 3);
        glad("-7/2", -3);
        glad("7/-2", -3);
        glad("-7/-2", 3);
        glad("1/2", 0);
        glad("-1/2", 0);
        glad("-999/(999+1)", 0);
        glad("-999/999", -1);
    }

    private static void minusAhead() {
        glad("-l", -5);
        glad("--l", 5);
        glad("3--l", 8);
        glad("3---l", -2);
        glad("3*-l", -15);
        glad("-l*-l", 25);
        glad("-(l+1)", -6);
        glad("-(-(-l))", -5);
        // It binds more than all others.
        glad("-2+3", 1);
        glad("-3*0-1", -1);
        // Any many, to the end of the text.
        glad("-".repeat(39) + "l", -5);
        glad("-".repeat(38) + "l", 5);
        cannotStand("-".repeat(40), 40);
        cannotStand("-".repeat(40) + "l", 40);
        cannotStand("-", 1);
        cannotStand("-+l", 1);
    }

    private static void numbers() {
        glad("0", 0);
        glad("000", 0);
        glad("007", 7);
        glad("99", 99);
        glad("999", 999);
        cannotStand("1000", 3);
        cannotStand("0000", 3);
        cannotStand("l+9999", 5);
        cannotStand("(1234)", 4);
        cannotStand("12l", 2);
        cannotStand("l12", 1);
        cannotStand("12(3)", 2);
    }

    private static void brackets() {
        glad("((((l))))", 5);
        glad("((((l))))*((((2))))", 10);
        glad("(((l)+(1))-((2)*(3)))", 0);
        cannotStand("(((((l)))))", 4);
        cannotStand("((((l))))+(((((l)))))", 14);
        cannotStand("(((((", 4);
        cannotStand("((((", 4);
        cannotStand("()", 1);
        cannotStand("(l", 2);
        cannotStand("l)", 1);
        cannotStand("(l))", 3);
        cannotStand("(l)(l)", 3);
        cannotStand("(l)l", 3);
    }

    private static void thingsOfTwo() {
        VotedUnseen x = Due.town("050000000;300000007");
        x.owes(0, 1, 40);
        x.tells(0, 1);
        x.months(2);
        // 0 was UNSEEN, then 1: the debt to 1 was 41 and stood still; 0 took 1 of the 7 of 1, then 1 took it back.
        gladOf(x, "l", 5, 3);
        gladOf(x, "t", 1, 1);
        gladOf(x, "s", 1, 1);
        gladOf(x, "b", 8, 1);
        gladOf(x, "d", 41, 0);
        gladOf(x, "m", 2, 2);
        VotedUnseen y = Due.town(TWO);
        gladOf(y, "s", 0, 0);
        y.tells(1, 0);
        gladOf(y, "s", 0, 1);
        String[] others = {"L", "a", "c", "k", "n", "u", "x", " ", ".", "%", "[", "{", "\u00ff", "\0"};
        for (String other : others) {
            cannotStand(other, 0);
            cannotStand("l+" + other, 2);
            cannotStand("l" + other, 1);
        }
    }

    private static void gladOf(VotedUnseen x, String rule, int ofFirst, int ofSecond) {
        Due.rule(x, rule);
        Due.is("GLADNESS of 0 for 1 by " + rule, x.between(0, 1, 1), ofFirst);
        Due.is("GLADNESS of 1 for 0 by " + rule, x.between(1, 0, 1), ofSecond);
    }

    private static void monthByTwelve() {
        VotedUnseen x = Due.town(TWO);
        Due.rule(x, "m");
        int[] passed = {0, 1, 10, 1, 1, 11, 1, 60};
        int[] rest = {0, 1, 11, 0, 1, 0, 1, 1};
        for (int i = 0; i < passed.length; i++) {
            x.months(passed[i]);
            Due.is("MONTH " + x.count(1) + " by 12", x.between(0, 1, 1), rest[i]);
        }
    }

    private static void gladnessAsInts() {
        int least = Integer.MIN_VALUE;
        glad("128*128*128*128*8", least);
        glad("128*128*128*128*8-1", Integer.MAX_VALUE);
        glad("128*128*128*128*8-1+1", least);
        glad("-(128*128*128*128*8)", least);
        glad("128*128*128*128*8/-1", least);
        glad("128*128*128*128*8*2", 0);
        glad("128*128*128*128*8<0", 1);
        glad("128*128*128*128*8-1>0", 1);
        // 3 * 999^3 is above the most int, so that 2 * 999^3 is the most.
        VotedUnseen x = Due.town("012300000;000000000;000000000;000000000");
        Due.rule(x, "l*999*999*999");
        Due.is("the most as ints", x.person(0, 4), 2);
        // The least int is GLADNESS like any other.
        Due.rule(x, "128*128*128*128*8");
        Due.is("the least GLADNESS, of equal ones the first", x.person(0, 4), 1);
        Due.rule(x, "(l<3)*128*128*128*128*8");
        Due.is("more than the least GLADNESS", x.person(0, 4), 3);
    }
}
