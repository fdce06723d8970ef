/** The edges that the promises 17 to 24 name, each sentence by itself. */
final class VotesEdgesTest {
    private static final int LEAST = Integer.MIN_VALUE;
    private static final int MOST = Integer.MAX_VALUE;
    private static final String TWO = "000000000;000000000";
    // Votes: 0 for 2, 1 for 3, 2, 3 and 4 for 1.
    private static final String FIVE = "009000000;000900000;090000000;090000000;090000000";

    public static void main(String[] args) {
        voteNow();
        voteOfNobody();
        aheadOutside();
        aheadAtItsEdges();
        whenOutside();
        whenAtItsEdges();
        learnsOutside();
        learnsAtItsEdges();
        withoutOutside();
        withoutWhateverItIs();
        swingsOutside();
        swingsOfNone();
        swingsOfEqualOnes();
        swingsThatCannotBe();
        holdsFewest();
        holdsOneSuchAtLeast();
        holdsOfNone();
        holdsThatCannotBe();
        duelsOfLikeGladness();
        duelsWonAllButOne();
        duelsOfEight();
        duelsOfOneAtLeast();
        duelsOfWhoCanBeVotedFor();
        Due.finish();
    }

    private static VotedUnseen two() {
        return Due.town(TWO);
    }

    private static VotedUnseen five() {
        return Due.town(FIVE);
    }

    /** 0 is UNSEEN, 1 AWAY: there is nobody to vote for. */
    private static VotedUnseen unseenAlone() {
        VotedUnseen x = two();
        x.months(1);
        x.goes(1);
        return x;
    }

    private static VotedUnseen allAway() {
        VotedUnseen x = two();
        x.goes(0);
        x.goes(1);
        return x;
    }

    private static void voteNow() {
        Edge.question("vote", Edge::busy, VotedUnseen::vote, 0, 2, 1, 0, 0);
        Edge.question("vote of eight", () -> Due.town(Edge.lines(8)), VotedUnseen::vote, 0, 7, 1, 0, 0, 0, 0, 0, 0);
    }

    private static void voteOfNobody() {
        Edge.question("vote, all AWAY", VotesEdgesTest::allAway, VotedUnseen::vote, -2, 0, 0);
        Edge.question("vote of UNSEEN alone", VotesEdgesTest::unseenAlone, VotedUnseen::vote, -2, 0, 0);
        Edge.question("vote of one alone", () -> Due.town(Edge.LINE), VotedUnseen::vote, -2, 0);
    }

    private static void aheadOutside() {
        int[] outside = {-1, 100, LEAST, MOST};
        for (int n : outside) {
            Edge.refused("ahead " + n, Edge::busy, x -> x.ahead(n), -1);
        }
    }

    private static void aheadAtItsEdges() {
        VotedUnseen now = Edge.busy();
        Edge.question("ahead 0", Edge::busy, x -> x.ahead(0), 2, now.count(4), now.count(5));
        VotedUnseen far = Edge.busy();
        far.months(60);
        int then = far.months(39);
        Edge.question("ahead 99", Edge::busy, x -> x.ahead(99), then, far.count(4), far.count(5));
        Edge.question("ahead 0, nobody", VotesEdgesTest::two, x -> x.ahead(0), -2, 0, 2);
        Edge.question("ahead 1", VotesEdgesTest::two, x -> x.ahead(1), 0, 1, 3);
        Edge.question("ahead 99, all AWAY", VotesEdgesTest::allAway, x -> x.ahead(99), -2, 0, 2);
        Edge.question("ahead 1, UNSEEN alone", VotesEdgesTest::unseenAlone, x -> x.ahead(1), -2, 2, 3);
    }

    private static void whenOutside() {
        Edge.noSuch("when", Edge::busy, VotedUnseen::when);
    }

    /** 2 is voted for in the month whose DEBTS to it are above a number; they were 1 at first. */
    private static VotedUnseen votedForIn(int month) {
        VotedUnseen x = Due.town("090000000;900000000;900000000");
        Due.walk(x, "12");
        x.owes(0, 2, 1);
        x.owes(1, 2, 1);
        Due.rule(x, "l+(d>" + (month - 1) + ")*50");
        return x;
    }

    private static void whenAtItsEdges() {
        Edge.question("when in 1", () -> votedForIn(1), x -> x.when(2), 1, 3);
        Edge.question("when in 2", () -> votedForIn(2), x -> x.when(2), 2, 3);
        Edge.question("when in 99", () -> votedForIn(99), x -> x.when(2), 99, 3);
        Edge.refused("when in 100", () -> votedForIn(100), x -> x.when(2), -2);
        Edge.refused("when of one AWAY", Edge::busy, x -> x.when(3), -2);
        Edge.refused("when of UNSEEN alone", VotesEdgesTest::unseenAlone, x -> x.when(0), -2);
        Edge.question("when of UNSEEN: not now", () -> {
            VotedUnseen x = two();
            x.months(1);
            return x;
        }, x -> x.when(0), 2, 2);
        Edge.question("knows its own alone", () -> {
            VotedUnseen x = two();
            Due.walk(x, "2");
            return x;
        }, x -> x.when(0), 1, 1);
    }

    private static void learnsOutside() {
        Edge.noSuch("learns", Edge::busy, VotedUnseen::learns);
    }

    private static void learnsAtItsEdges() {
        Edge.question("learns now", () -> Due.town(Edge.LINE), x -> x.learns(0), 0, 0);
        Edge.question("UNSEEN knows all now", Edge::busy, x -> x.learns(2), 0, 1);
        Edge.question("learns in 1", () -> votedForIn(1), x -> x.learns(2), 1, 1);
        Edge.question("learns in 99", () -> votedForIn(99), x -> x.learns(2), 99, 1);
        Edge.refused("learns in 100", () -> votedForIn(100), x -> x.learns(2), -2);
        Edge.refused("learns, all AWAY", VotesEdgesTest::allAway, x -> x.learns(0), -2);
        Edge.question("one AWAY who was told", () -> {
            VotedUnseen x = allAway();
            x.tells(1, 0);
            return x;
        }, x -> x.learns(0), 0, 0);
        Edge.refused("a walk past one of three", () -> {
            VotedUnseen x = Due.town(Edge.lines(3));
            Due.walk(x, "3");
            return x;
        }, x -> x.learns(0), -2);
    }

    private static void withoutOutside() {
        Edge.noSuch("without", Edge::busy, VotedUnseen::without);
    }

    private static void withoutWhateverItIs() {
        // In busy() 0, 1 and 2 vote; 2 is UNSEEN, 3 AWAY.
        Edge.question("without one AWAY: as now", Edge::busy, x -> x.without(3), 0, 2, 1, 0, 0);
        Edge.question("without UNSEEN, who stays so", Edge::busy, x -> x.without(2), 0, 1, 1, 0, 0);
        Edge.question("without one who is CHOSEN", Edge::busy, x -> x.without(0), 1, 0, 1, 0, 0);
        Edge.question("without one of two", VotesEdgesTest::two, x -> x.without(1), -2, 0, 0);
        Edge.question("without one alone", () -> Due.town(Edge.LINE), x -> x.without(0), -2, 0);
        // Were UNSEEN free, 0 would be voted for by 1.
        Edge.question("UNSEEN stays", () -> {
            VotedUnseen x = two();
            x.months(1);
            return x;
        }, x -> x.without(1), -2, 0, 0);
    }

    private static void swingsOutside() {
        Edge.noSuch("swings", Edge::busy, VotedUnseen::swings);
    }

    private static void swingsOfNone() {
        Edge.question("swings of who is CHOSEN", VotesEdgesTest::five, x -> x.swings(1), 0, 0);
        Edge.question("swings of the first of equal ones", VotesEdgesTest::two, x -> x.swings(0), 0, 0);
    }

    private static void swingsOfEqualOnes() {
        // 1 and 2 turned: 0 has two, 1 two: the first is CHOSEN.
        Edge.question("as many are enough for the first", VotesEdgesTest::five, x -> x.swings(0), 2, 6);
        // 4 must have more than 1: 2 and 3 turned.
        Edge.question("the last needs more", VotesEdgesTest::five, x -> x.swings(4), 2, 12);
        // 2 has one vote of 0; not its own turned.
        Edge.question("its own vote is not turned", VotesEdgesTest::five, x -> x.swings(2), 2, 10);
        Edge.question("of as few the least", VotesEdgesTest::five, x -> x.swings(3), 2, 5);
        Edge.question("UNSEEN turns", Edge::busy, x -> x.swings(1), 1, 4);
    }

    private static void swingsThatCannotBe() {
        Edge.refused("swings of UNSEEN", Edge::busy, x -> x.swings(2), -2);
        Edge.refused("swings of one AWAY", Edge::busy, x -> x.swings(3), -2);
        Edge.refused("swings of one alone", () -> Due.town(Edge.LINE), x -> x.swings(0), -2);
        Edge.refused("its own vote is against it", VotesEdgesTest::two, x -> x.swings(1), -2);
        Edge.question("all others turned", () -> Due.town("090000000;900000000;900000000"), x -> x.swings(2), 2, 3);
    }

    private static void holdsFewest() {
        // 2 and 3: 0 by 2 (1 has one left), 1 by 3, 4 by 2; no other two do for 4.
        Edge.question("holds", VotesEdgesTest::five, VotedUnseen::holds, 2, 12);
        // 0 can't: 1 would have one vote, and 0 the one of 1. 1 can.
        Edge.question("holds of two", VotesEdgesTest::two, VotedUnseen::holds, 1, 2);
        // 0, 1, 2 vote; 0 and 1 can be voted for. Of 0: 1 as now has one, 0 two. Of 1: 0 is CHOSEN.
        Edge.question("holds of those who vote", Edge::busy, VotedUnseen::holds, 1, 2);
    }

    private static void holdsOneSuchAtLeast() {
        Edge.refused("there is none who can be voted for", VotesEdgesTest::unseenAlone, VotedUnseen::holds, -2);
        Edge.refused("all are AWAY", VotesEdgesTest::allAway, VotedUnseen::holds, -2);
    }

    private static void holdsOfNone() {
        Edge.question("one alone can be voted for, and is CHOSEN", () -> {
            VotedUnseen x = two();
            x.months(1);
            return x;
        }, VotedUnseen::holds, 0, 0);
    }

    private static void holdsThatCannotBe() {
        Edge.refused("nobody votes for one alone", () -> Due.town(Edge.LINE), VotedUnseen::holds, -2);
        Edge.refused("one of two is AWAY", () -> {
            VotedUnseen x = two();
            x.goes(0);
            return x;
        }, VotedUnseen::holds, -2);
    }

    private static void duelsOfLikeGladness() {
        Edge.question("of like GLADNESS for none", () -> Due.town(Edge.lines(3)), VotedUnseen::duels, -2, 0, 0, 0);
        // 0 against 1: 2 for 0, 3 for 1, as many each; 0 wins against 3 by 2, 1 against 2 by 3.
        Edge.question("as many each: none wins", () -> Due.town("000000000;000000000;900000000;090000000"),
            VotedUnseen::duels, -2, 1, 1, 0, 0);
    }

    private static void duelsWonAllButOne() {
        Edge.question("wins all", () -> Due.town("000000000;900000000;900000000"), VotedUnseen::duels, 0, 2, 0, 0);
        Edge.question("wins one of two each", () -> Due.town("090000000;009000000;900000000"), VotedUnseen::duels, -2,
            1, 1, 1);
        Edge.question("the last wins all", () -> Due.town("009000000;009000000;000000000"), VotedUnseen::duels, 2,
            0, 0, 2);
        // By one point of GLADNESS.
        Edge.question("more by one", () -> {
            VotedUnseen x = Due.town("000000000;000000000;450000000");
            Due.rule(x, "l");
            return x;
        }, VotedUnseen::duels, -2, 0, 1, 0);
    }

    private static void duelsOfEight() {
        Edge.question("eight, none wins", () -> Due.town(Edge.lines(8)), VotedUnseen::duels, -2,
            0, 0, 0, 0, 0, 0, 0, 0);
        // All but 7 like 7: it wins each duel by six.
        String all = "000000090;".repeat(7) + Edge.LINE;
        Edge.question("eight, the last wins all", () -> Due.town(all), VotedUnseen::duels, 7,
            0, 0, 0, 0, 0, 0, 0, 7);
    }

    private static void duelsOfOneAtLeast() {
        Edge.question("no duel of one alone", () -> Due.town(Edge.LINE), VotedUnseen::duels, -2, 0);
        Edge.question("a duel without voters", VotesEdgesTest::two, VotedUnseen::duels, -2, 0, 0);
        Edge.question("no duel beside UNSEEN", () -> {
            VotedUnseen x = two();
            x.months(1);
            return x;
        }, VotedUnseen::duels, -2, 0, 0);
        Edge.question("no duel, all AWAY", VotesEdgesTest::allAway, VotedUnseen::duels, -2, 0, 0);
    }

    private static void duelsOfWhoCanBeVotedFor() {
        // 0 is UNSEEN and alone votes between 1 and 2.
        Edge.question("one duel is enough", () -> {
            VotedUnseen x = Due.town("008000000;900000000;900000000");
            x.months(1);
            return x;
        }, VotedUnseen::duels, 2, 0, 0, 1);
        // 2 is UNSEEN, 3 AWAY: 0 against 1 by 2 alone.
        Edge.question("UNSEEN votes, one AWAY does not", Edge::busy, VotedUnseen::duels, 0, 1, 0, 0, 0);
        Edge.question("one AWAY does not vote", () -> {
            VotedUnseen x = Due.town("000000000;000000000;900000000");
            x.goes(2);
            return x;
        }, VotedUnseen::duels, -2, 0, 0, 0);
    }
}
