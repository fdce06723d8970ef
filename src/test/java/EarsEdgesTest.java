/** The edges that the promises 25 to 31 name, each sentence by itself. */
final class EarsEdgesTest {
    private static final int LEAST = Integer.MIN_VALUE;
    private static final int MOST = Integer.MAX_VALUE;
    private static final String TWO = "000000000;000000000";

    public static void main(String[] args) {
        hearsOutside();
        hearsNothingMore();
        hearsOfUnseenAndAway();
        earsOfEqualOnes();
        earsOfNobody();
        standsOutside();
        standsAtNone();
        standsAtFewest();
        standsThatCannotBe();
        gossipOfEqualOnes();
        gossipOfNobody();
        laterOutside();
        laterAtItsEdges();
        laterStoodStill();
        netOutside();
        netAtItsEdges();
        chainOfNone();
        chainOfEqualOnes();
        chainOfAll();
        Due.finish();
    }

    private static VotedUnseen town(int people, String walk) {
        VotedUnseen x = Due.town(Edge.lines(people));
        Due.walk(x, walk);
        return x;
    }

    private static void hearsOutside() {
        Edge.noSuch("hears", Edge::busy, VotedUnseen::hears);
    }

    private static void hearsNothingMore() {
        Edge.question("a walk to itself", () -> town(3, "3"), x -> x.hears(1), 2, 0);
        Edge.question("one alone", () -> town(1, "1234567"), x -> x.hears(0), 1, 0);
        Edge.question("what it knows is nothing more", () -> {
            VotedUnseen x = town(2, "1");
            x.tells(1, 0);
            return x;
        }, x -> x.hears(0), 3, 0);
        Edge.question("the same twice", () -> town(3, "11"), x -> x.hears(2), 5, 1);
        Edge.question("all of eight", () -> town(8, "1234567"), x -> x.hears(7), 255, 7);
        Edge.question("seven of eight", () -> town(8, "1234561"), x -> x.hears(7), 191, 6);
    }

    private static void hearsOfUnseenAndAway() {
        // The walk of busy() is 132; 2 is UNSEEN and knows all, 3 is AWAY and knows its own alone.
        Edge.question("comes to one AWAY, 3, to one UNSEEN", Edge::busy, x -> x.hears(0), 15, 0);
        Edge.question("one AWAY goes", Edge::busy, x -> x.hears(3), 15, 3);
        Edge.question("comes to one AWAY alone", () -> {
            VotedUnseen x = town(2, "1");
            x.goes(1);
            return x;
        }, x -> x.hears(0), 1, 0);
        Edge.question("what another one knows, as it is", () -> {
            VotedUnseen x = town(3, "1");
            x.tells(2, 1);
            return x;
        }, x -> x.hears(0), 7, 2);
    }

    private static void earsOfEqualOnes() {
        Edge.question("of equal ones the first", () -> town(4, "1"), VotedUnseen::ears, 0, 1);
        Edge.question("none hears more: the first", () -> town(4, "4"), VotedUnseen::ears, 0, 0);
        Edge.question("one alone", () -> town(1, "1"), VotedUnseen::ears, 0, 0);
        Edge.question("a later one who hears more", () -> {
            VotedUnseen x = town(4, "1");
            x.tells(1, 0);
            return x;
        }, VotedUnseen::ears, 3, 2);
        Edge.question("as many by two: the first of them", () -> {
            VotedUnseen x = town(4, "1");
            x.tells(1, 0);
            x.tells(1, 2);
            x.tells(0, 2);
            x.tells(3, 2);
            x.tells(2, 1);
            return x;
        }, VotedUnseen::ears, 1, 2);
    }

    private static void earsOfNobody() {
        Edge.refused("ears without PEOPLE", Edge::empty, VotedUnseen::ears, -2);
        Edge.question("ears, all AWAY", () -> {
            VotedUnseen x = town(2, "1");
            x.goes(0);
            x.goes(1);
            return x;
        }, VotedUnseen::ears, 0, 0);
    }

    private static void standsOutside() {
        Edge.noSuch("stands", Edge::busy, (x, one) -> x.stands(one, 0));
        int[] bits = {16, 17, 128, 256, -1, LEAST, MOST};
        for (int secrets : bits) {
            Edge.refused("stands for " + secrets, Edge::busy, x -> x.stands(0, secrets), -1);
        }
        Edge.refused("stands of eight for 256", () -> town(8, "1"), x -> x.stands(0, 256), -1);
    }

    private static void standsAtNone() {
        Edge.question("to know nothing", () -> town(4, "1"), x -> x.stands(3, 0), 0, 0);
        Edge.question("to know its own", () -> town(4, "1"), x -> x.stands(3, 8), 0, 0);
        Edge.question("to know what it was told", Edge::busy, x -> x.stands(1, 10), 0, 0);
        Edge.question("one AWAY, its own", Edge::busy, x -> x.stands(3, 8), 0, 0);
    }

    private static void standsAtFewest() {
        Edge.question("all of eight", () -> town(8, "1"), x -> x.stands(0, 255), 7, 254);
        Edge.question("the last of eight", () -> town(8, "1"), x -> x.stands(0, 128), 1, 128);
        Edge.question("0 and UNSEEN know all: the least", Edge::busy, x -> x.stands(1, 15), 1, 1);
        Edge.question("of as few the least", () -> {
            VotedUnseen x = town(4, "1");
            x.tells(3, 1);
            x.tells(3, 2);
            return x;
        }, x -> x.stands(0, 8), 1, 2);
        Edge.question("fewer ahead of less", () -> {
            VotedUnseen x = town(4, "1");
            x.tells(1, 3);
            x.tells(2, 3);
            return x;
        }, x -> x.stands(0, 6), 1, 8);
    }

    private static void standsThatCannotBe() {
        Edge.Make away = () -> {
            VotedUnseen x = town(4, "1");
            x.goes(3);
            return x;
        };
        Edge.refused("who knows it is AWAY", away, x -> x.stands(0, 8), -2);
        Edge.question("the others are HERE", away, x -> x.stands(0, 7), 2, 6);
        Edge.question("one AWAY may stand", away, x -> x.stands(3, 15), 3, 7);
        Edge.refused("one AWAY of one AWAY", () -> {
            VotedUnseen x = away.make();
            x.goes(2);
            return x;
        }, x -> x.stands(3, 4), -2);
        Edge.question("another one who is HERE knows it", () -> {
            VotedUnseen x = away.make();
            x.tells(3, 2);
            return x;
        }, x -> x.stands(0, 8), 1, 4);
    }

    private static void gossipOfEqualOnes() {
        Edge.question("of equal ones the first", () -> town(8, "1"), VotedUnseen::gossip, 0, 1, 1);
        Edge.question("one alone", () -> town(1, "1"), VotedUnseen::gossip, 0, 1, 1);
        Edge.Make told = () -> {
            VotedUnseen x = town(8, "1");
            for (int other = 0; other < 7; other++) {
                x.tells(7, other);
            }
            return x;
        };
        Edge.question("all know the last", told, VotedUnseen::gossip, 7, 8, 255);
        Edge.question("the last but one as well", () -> {
            VotedUnseen x = told.make();
            for (int other = 0; other < 8; other++) {
                x.tells(6, other);
            }
            return x;
        }, VotedUnseen::gossip, 6, 8, 255);
        Edge.question("one AWAY knows, too", () -> {
            VotedUnseen x = town(3, "1");
            x.tells(2, 0);
            x.goes(0);
            return x;
        }, VotedUnseen::gossip, 2, 2, 5);
    }

    private static void gossipOfNobody() {
        Edge.refused("gossip without PEOPLE", Edge::empty, VotedUnseen::gossip, -2);
    }

    private static void laterOutside() {
        Edge.noSuch("later of", Edge::busy, (x, one) -> x.later(one, 0, 1));
        Edge.noSuch("later to", Edge::busy, (x, one) -> x.later(0, one, 1));
        int[] outside = {-1, 61, LEAST, MOST};
        for (int n : outside) {
            Edge.refused("later in " + n, Edge::busy, x -> x.later(0, 1, n), -1);
        }
        for (int one = 0; one < 4; one++) {
            int like = one;
            Edge.refused("later of like ones", Edge::busy, x -> x.later(like, like, 1), -1);
        }
    }

    private static VotedUnseen owing(int n) {
        VotedUnseen x = Due.town(TWO);
        x.owes(0, 1, n);
        return x;
    }

    private static void laterAtItsEdges() {
        Edge.question("later in 0", () -> owing(5), x -> x.later(0, 1, 0), 5, 0);
        // 0, then 1, by turns: in every second month the DEBT to 1 stands still.
        Edge.question("later in 1", () -> owing(5), x -> x.later(0, 1, 1), 6, 0);
        Edge.question("later in 2", () -> owing(5), x -> x.later(0, 1, 2), 6, 1);
        Edge.question("later in 60", () -> owing(5), x -> x.later(0, 1, 60), 35, 30);
        Edge.question("up to 999", () -> owing(998), x -> x.later(0, 1, 1), 999, 0);
    }

    private static void laterStoodStill() {
        Edge.question("a DEBT of 0: in none of none", () -> owing(5), x -> x.later(1, 0, 0), 0, 0);
        Edge.question("a DEBT of 0: in all", () -> owing(5), x -> x.later(1, 0, 60), 0, 60);
        Edge.question("999 does not change: in all", () -> owing(999), x -> x.later(0, 1, 3), 999, 3);
        Edge.question("998, 999, and so on", () -> owing(998), x -> x.later(0, 1, 5), 999, 4);
        Edge.question("nobody is UNSEEN: in none", () -> {
            VotedUnseen x = owing(5);
            x.goes(0);
            return x;
        }, x -> x.later(0, 1, 60), 65, 0);
    }

    private static void netOutside() {
        Edge.noSuch("net", Edge::busy, VotedUnseen::net);
    }

    private static void netAtItsEdges() {
        Edge.question("no DEBTS", () -> town(8, "1"), x -> x.net(7), 10000, 0, 0);
        Edge.Make most = () -> {
            VotedUnseen x = town(8, "1");
            for (int other = 1; other < 8; other++) {
                x.owes(other, 0, 999);
            }
            return x;
        };
        Edge.question("most to one", most, x -> x.net(0), 16993, 6993, 0);
        Edge.question("of another one", most, x -> x.net(7), 9001, 0, 999);
        Edge.question("most of one", () -> {
            VotedUnseen x = town(8, "1");
            for (int other = 0; other < 7; other++) {
                x.owes(7, other, 999);
            }
            return x;
        }, x -> x.net(7), 3007, 0, 6993);
        Edge.question("as much both ways", () -> {
            VotedUnseen x = owing(9);
            x.owes(1, 0, 9);
            return x;
        }, x -> x.net(0), 10000, 9, 9);
    }

    private static void chainOfNone() {
        Edge.question("chain without PEOPLE", Edge::empty, VotedUnseen::chain, 0);
        Edge.question("chain of one alone", () -> town(1, "1"), VotedUnseen::chain, 1, 0);
        Edge.question("chain without DEBTS", () -> town(8, "1"), VotedUnseen::chain, 1, 0);
        Edge.question("a DEBT that was paid", () -> {
            VotedUnseen x = owing(7);
            x.owes(0, 1, -7);
            return x;
        }, VotedUnseen::chain, 1, 0);
        Edge.question("a DEBT of 1", () -> owing(1), VotedUnseen::chain, 2, 0, 1);
    }

    private static void chainOfEqualOnes() {
        Edge.question("both ways: the least row", () -> {
            VotedUnseen x = owing(1);
            x.owes(1, 0, 1);
            return x;
        }, VotedUnseen::chain, 2, 0, 1);
        // 0 1 3 and 0 2 3: the second number tells.
        Edge.question("the second number", () -> {
            VotedUnseen x = town(4, "1");
            x.owes(0, 2, 1);
            x.owes(2, 3, 1);
            x.owes(0, 1, 1);
            x.owes(1, 3, 1);
            return x;
        }, VotedUnseen::chain, 3, 0, 1, 3);
        // 0 1 is less than 2 3 0, but shorter.
        Edge.question("longer ahead of less", () -> {
            VotedUnseen x = town(4, "1");
            x.owes(0, 1, 1);
            x.owes(2, 3, 1);
            x.owes(3, 1, 1);
            return x;
        }, VotedUnseen::chain, 3, 2, 3, 1);
    }

    private static void chainOfAll() {
        Edge.question("eight in a row", () -> {
            VotedUnseen x = town(8, "1");
            for (int one = 7; one > 0; one--) {
                x.owes(one, one - 1, 1);
            }
            return x;
        }, VotedUnseen::chain, 8, 7, 6, 5, 4, 3, 2, 1, 0);
        Edge.question("eight around, nobody twice", () -> {
            VotedUnseen x = town(8, "1");
            for (int one = 0; one < 8; one++) {
                x.owes(one, (one + 1) % 8, 1);
            }
            return x;
        }, VotedUnseen::chain, 8, 0, 1, 2, 3, 4, 5, 6, 7);
        Edge.question("all to all", () -> {
            VotedUnseen x = town(8, "1");
            for (int one = 0; one < 8; one++) {
                for (int other = 0; other < 8; other++) {
                    x.owes(one, other, 1);
                }
            }
            return x;
        }, VotedUnseen::chain, 8, 0, 1, 2, 3, 4, 5, 6, 7);
    }
}
