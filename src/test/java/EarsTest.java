/** Promises 25 to 31: what is heard, who owes. */
final class EarsTest {
    private static final String FOUR = "059100005;900000006;910000007;900000008";
    private static final int[] NO_SUCH = {-1, 4, 8, Integer.MIN_VALUE, Integer.MAX_VALUE};

    public static void main(String[] args) {
        hears();
        ears();
        stands();
        gossip();
        later();
        net();
        chain();
        Due.finish();
    }

    private static void hears() {
        VotedUnseen x = Due.town(FOUR);
        for (int one : NO_SUCH) {
            Due.is("none such", x.hears(one), -1);
        }
        Due.is("3 comes to 0", x.hears(3), 9);
        Due.row("one more", x, 1);
        x.tells(0, 3);
        Due.is("3 knows it", x.hears(3), 9);
        Due.row("none more", x, 0);
        Due.walk(x, "1724");
        Due.is("1 comes to 2, 0, 3, itself", x.hears(1), 15);
        Due.row("three more", x, 3);
        x.goes(2);
        Due.is("2 is away", x.hears(1), 11);
        Due.row("two more", x, 2);
        Due.is("one who is away", x.hears(2), 15);
        Due.is("changes nothing", x.person(1, 1), 2);
        Due.is("bread aside", x.person(0, 0), 5);
    }

    private static void ears() {
        VotedUnseen x = new VotedUnseen();
        Due.is("no people", x.ears(), -2);
        Due.row("no row", x);
        Due.people(x, FOUR);
        Due.is("of equal ones the first", x.ears(), 0);
        Due.row("one more", x, 1);
        x.tells(0, 2);
        x.tells(3, 2);
        Due.is("1 hears three", x.ears(), 1);
        Due.row("three more", x, 3);
        Due.walk(x, "4");
        Due.is("none hears more", x.ears(), 0);
        Due.row("none more", x, 0);
    }

    private static void stands() {
        VotedUnseen x = Due.town(FOUR);
        for (int one : NO_SUCH) {
            Due.is("none such", x.stands(one, 0), -1);
        }
        Due.is("bits of none such", x.stands(0, 16), -1);
        Due.is("bits below 0", x.stands(0, -1), -1);
        Due.is("least bits", x.stands(0, Integer.MIN_VALUE), -1);
        Due.is("none", x.stands(0, 0), 0);
        Due.row("none", x, 0);
        Due.is("its own", x.stands(2, 4), 0);
        Due.is("all", x.stands(1, 15), 3);
        Due.row("all", x, 13);
        x.tells(3, 2);
        x.tells(1, 3);
        Due.is("1 and 3", x.stands(0, 14), 2);
        Due.row("of as few the least", x, 6);
        x.tells(1, 2);
        Due.is("2 knows all", x.stands(0, 15), 1);
        Due.row("2 knows all", x, 4);
        x.goes(2);
        Due.is("2 is away", x.stands(0, 14), -2);
        Due.row("can't be changes no row", x, 4);
        Due.is("3 and itself", x.stands(0, 11), 1);
        Due.row("3", x, 8);
        Due.is("one who is away", x.stands(2, 15), 1);
        Due.row("0", x, 1);
    }

    private static void gossip() {
        VotedUnseen x = new VotedUnseen();
        Due.is("no people", x.gossip(), -2);
        Due.row("no row", x);
        Due.people(x, FOUR);
        Due.is("of equal ones the first", x.gossip(), 0);
        Due.row("of equal ones the first", x, 1, 1);
        x.tells(2, 3);
        x.tells(2, 0);
        x.tells(1, 0);
        Due.is("2", x.gossip(), 2);
        Due.row("2", x, 3, 13);
    }

    private static void later() {
        VotedUnseen x = Due.town(FOUR);
        x.owes(1, 0, 10);
        x.owes(2, 3, 998);
        for (int one : NO_SUCH) {
            Due.is("none such", x.later(one, 0, 1), -1);
            Due.is("none such", x.later(0, one, 1), -1);
        }
        Due.is("like ones", x.later(1, 1, 1), -1);
        Due.is("below", x.later(1, 0, -1), -1);
        Due.is("above", x.later(1, 0, 61), -1);
        Due.is("now", x.later(1, 0, 0), 10);
        Due.row("now", x, 0);
        Due.is("0 is unseen first", x.later(1, 0, 1), 10);
        Due.row("stood still", x, 1);
        Due.is("then 1 is", x.later(1, 0, 2), 11);
        Due.row("stood still once", x, 1);
        Due.is("none", x.later(0, 1, 60), 0);
        Due.row("in all", x, 60);
        Due.is("999 at most", x.later(2, 3, 1), 999);
        Due.row("999 at most", x, 0);
        int debt = x.later(1, 0, 60);
        Due.row("grows but by what stood still", x, 70 - debt);
        Due.is("changes nothing", x.between(1, 0, 2), 10);
        x.months(60);
        Due.is("as it was told", x.between(1, 0, 2), debt);
    }

    private static void net() {
        VotedUnseen x = Due.town(FOUR);
        for (int one : NO_SUCH) {
            Due.is("none such", x.net(one), -1);
        }
        Due.is("nothing", x.net(0), 10000);
        Due.row("nothing", x, 0, 0);
        x.owes(1, 0, 10);
        x.owes(2, 0, 20);
        x.owes(0, 3, 37);
        Due.is("0", x.net(0), 9993);
        Due.row("0", x, 30, 37);
        Due.is("3", x.net(3), 10037);
        Due.row("3", x, 37, 0);
        Due.is("all", x.count(6), 67);
    }

    private static void chain() {
        VotedUnseen x = new VotedUnseen();
        x.ahead(1);
        Due.is("no people", x.chain(), 0);
        Due.row("no people", x);
        Due.people(x, FOUR);
        Due.is("no debts", x.chain(), 1);
        Due.row("no debts", x, 0);
        x.owes(3, 1, 1);
        Due.is("two", x.chain(), 2);
        Due.row("two", x, 3, 1);
        x.owes(2, 1, 1);
        Due.row("least row", x, 3, 1);
        Due.is("two still", x.chain(), 2);
        Due.row("least row", x, 2, 1);
        x.owes(1, 3, 1);
        Due.is("2 1 3", x.chain(), 3);
        Due.row("2 1 3", x, 2, 1, 3);
        x.owes(1, 2, 1);
        x.owes(3, 0, 1);
        x.owes(0, 3, 1);
        // 0 3 1 2, 2 1 3 0.
        Due.is("all", x.chain(), 4);
        Due.row("all", x, 0, 3, 1, 2);
        x.owes(1, 2, -1);
        Due.is("all, the other way", x.chain(), 4);
        Due.row("all, the other way", x, 2, 1, 3, 0);
        x.goes(2);
        Due.is("away ones owe too", x.chain(), 4);
        VotedUnseen round = Due.town(FOUR);
        round.owes(0, 1, 1);
        round.owes(1, 0, 1);
        round.owes(1, 2, 1);
        round.owes(2, 0, 1);
        Due.is("nobody twice", round.chain(), 3);
        Due.row("nobody twice", round, 0, 1, 2);
    }
}
