/** Promises 1 to 9: a new object, texts, people, the walk, the rule, a sheet. */
final class PeopleTest {
    // 0 likes 1 by 5, 2 by 2, has 4 of bread; 1 likes 2 most; 2 likes 0 by 6, 1 by 7.
    private static final String THREE = "052000004;209000001;670000000";
    private static final String LINE = "123456789";

    public static void main(String[] args) {
        newObject();
        signs();
        ends();
        people();
        peopleThatCannotCome();
        walks();
        rules();
        rulesThatCannotStand();
        person();
        between();
        gladness();
        sheet();
        Due.finish();
    }

    private static void newObject() {
        VotedUnseen x = new VotedUnseen();
        int[] first = {0, 0, -1, 0, 0, 0, 0, 1, 0, 0, 0, 0};
        for (int what = 0; what < first.length; what++) {
            Due.is("new count " + what, x.count(what), first[what]);
        }
        Due.row("new", x);
        Due.missing("new person", () -> x.person(0, 0));
    }

    private static void signs() {
        VotedUnseen x = new VotedUnseen();
        for (int i = 1; i <= 20; i++) {
            Due.is("sign " + i, x.sign(0x31323334), 4 * i);
        }
        Due.is("sign 21", x.sign(0x31323334), -1);
        Due.is("signs left", x.count(11), 80);
        Due.is("end 77", x.end(77), true);
        Due.is("sign at 77", x.sign(0), -1);
        Due.is("end 76", x.end(76), true);
        Due.is("sign at 76", x.sign(0), 80);
        // The highest byte is first, also of an int below 0.
        VotedUnseen y = new VotedUnseen();
        y.sign(0x31FF3131);
        Due.is("walk 1, 255", y.walk(), -2);
        y.sign(0xB1313131);
        Due.is("walk 0xB1", y.walk(), -1);
        y.sign(0x31373100);
        Due.is("walk 171 and 0", y.walk(), -4);
    }

    private static void ends() {
        VotedUnseen x = new VotedUnseen();
        Due.is("end 0 of none", x.end(0), true);
        Due.is("end 1 of none", x.end(1), false);
        x.sign(0x31323334);
        Due.is("end -1", x.end(-1), false);
        Due.is("end least", x.end(Integer.MIN_VALUE), false);
        Due.is("end most", x.end(Integer.MAX_VALUE), false);
        Due.is("end 5 of 4", x.end(5), false);
        Due.is("signs after refused ends", x.count(11), 4);
        Due.is("end 4 of 4", x.end(4), true);
        Due.is("end 3", x.end(3), true);
        Due.is("signs", x.count(11), 3);
        Due.is("walk of 3", x.walk(), 3);
        Due.is("a text that was read is empty", x.count(11), 0);
    }

    private static void people() {
        VotedUnseen x = Due.town(THREE);
        Due.is("people", x.count(0), 3);
        Due.is("here", x.count(3), 7);
        Due.is("bread", x.count(4), 5);
        Due.is("known", x.count(5), 3);
        Due.is("text", x.count(11), 0);
        Due.is("one more", Due.people(x, LINE), 1);
        Due.is("four", x.count(0), 4);
        Due.is("its secret", x.person(3, 1), 8);
        Due.is("its liking", x.between(3, 0, 0), 1);
        Due.is("liking told ahead", x.between(2, 3, 0), 0);
        Due.is("nothing", Due.people(x, ""), 0);
        Due.is("four still", x.count(0), 4);

        StringBuilder eight = new StringBuilder(LINE);
        for (int i = 1; i < 8; i++) {
            eight.append(';').append(LINE);
        }
        VotedUnseen y = new VotedUnseen();
        Due.is("eight", Due.people(y, eight.toString()), 8);
        Due.is("liking for a later one", y.between(0, 7, 0), 8);
        Due.is("all bread", y.count(4), 72);
        Due.is("no room", Due.people(y, LINE), -1);
        Due.is("no room, other sign", Due.people(y, "x"), -1);
        Due.is("no room, but nothing comes", Due.people(y, ""), 0);
        VotedUnseen z = new VotedUnseen();
        Due.is("80 signs", Due.people(z, eight + ";"), -80);
        Due.is("80 signs, another one", Due.people(z, eight + "x"), -80);
        Due.is("none came", z.count(0), 0);
    }

    private static void peopleThatCannotCome() {
        VotedUnseen x = new VotedUnseen();
        Due.is("a letter", Due.people(x, "x"), -1);
        Due.is("a semicolon", Due.people(x, ";"), -1);
        Due.is("too early", Due.people(x, "12345678"), -9);
        Due.is("a letter for bread", Due.people(x, "12345678x"), -9);
        Due.is("a tenth digit", Due.people(x, "1234567890"), -10);
        Due.is("a line missing", Due.people(x, LINE + ";"), -11);
        Due.is("a second line too short", Due.people(x, LINE + ";1"), -12);
        Due.is("sign ahead of 0", Due.people(x, "1/"), -2);
        Due.is("sign behind 9", Due.people(x, "1:"), -2);
        Due.is("nobody came", x.count(0), 0);
        Due.is("text is empty", x.count(11), 0);
        VotedUnseen six = Due.town(LINE + ";" + LINE + ";" + LINE + ";" + LINE + ";" + LINE + ";" + LINE);
        Due.is("third has no room", Due.people(six, LINE + ";" + LINE + ";" + LINE), -21);
        Due.is("third has no room, too early", Due.people(six, LINE + ";" + LINE + ";"), -21);
        Due.is("an earlier fault", Due.people(six, LINE + ";1x;" + LINE), -12);
        Due.is("six still", six.count(0), 6);
        Due.is("two more", Due.people(six, LINE + ";" + LINE), 2);
    }

    private static void walks() {
        VotedUnseen x = new VotedUnseen();
        Due.is("none", Due.walk(x, ""), -1);
        Due.is("0", Due.walk(x, "0"), -1);
        Due.is("8", Due.walk(x, "8"), -1);
        Due.is("17x", Due.walk(x, "17x"), -3);
        Due.is("nine", Due.walk(x, "123456712"), -9);
        Due.is("nine, other", Due.walk(x, "12345671x"), -9);
        Due.is("nine with an earlier fault", Due.walk(x, "1234567x1"), -8);
        Due.is("as at first", x.count(7), 1);
        Due.is("eight", Due.walk(x, "12345671"), 8);
        Due.is("eight stand", x.count(7), 8);
        Due.is("refused", Due.walk(x, "9"), -1);
        Due.is("eight still", x.count(7), 8);
        Due.is("anew", Due.walk(x, "72"), 2);
        VotedUnseen y = Due.town(THREE);
        Due.is("first walk", y.hears(0), 3);
        Due.walk(y, "2");
        Due.is("other walk", y.hears(0), 5);
        Due.walk(y, "3");
        Due.is("walk to itself", y.hears(0), 1);
        Due.walk(y, "75");
        Due.is("walk by the rest", y.hears(0), 7);
    }

    private static void rules() {
        String forty = "1+1+1+1+1+1+1+1+1+1+1+1+1+1+1+1+1+1+1+1";
        VotedUnseen x = Due.town(THREE);
        Due.is("forty", Due.rule(x, forty + "1"), 0);
        Due.is("forty counts", x.between(0, 1, 1), 30);
        Due.is("forty ends too early", Due.rule(x, forty + "+"), -41);
        Due.is("forty one", Due.rule(x, forty + "11"), -41);
        Due.is("forty one, an earlier fault", Due.rule(x, "x" + forty + "1"), -1);
        Due.is("forty stands", x.between(0, 1, 1), 30);
        Due.is("none", Due.rule(x, ""), 0);
        Due.is("as at first", x.between(0, 1, 1), 10);
        Due.is("four in one another", Due.rule(x, "((((l))))"), 0);
        Due.is("four beside four", Due.rule(x, "((((l))))+((((t))))"), 0);
        Due.is("text is empty", x.count(11), 0);
    }

    private static void rulesThatCannotStand() {
        VotedUnseen x = Due.town(THREE);
        String[] texts = {"z", "l+", "1234", "(l", "l)", "((((((l", "l<t<s", "l=t>s", "l<(t<s)<b", "+l", "l*/t",
            "ll", "l1", "1l", "12(", "()", "-", "--", "l-", "l--", "(l<t=b)", "l t", "L", "(1+2", "l<", "12345",
            "((((l)+(((1", "((((l))))+(((((1", "l*-+t", "<l"};
        int[] at = {0, 2, 3, 2, 1, 4, 3, 3, 7, 0, 2, 1, 1, 1, 2, 1, 1, 2, 2, 3, 4, 1, 0, 4, 2, 3, 8, 14, 3, 0};
        for (int i = 0; i < texts.length; i++) {
            Due.is("rule " + texts[i], Due.rule(x, texts[i]), -1 - at[i]);
            Due.is("law " + texts[i], Due.law(x, texts[i]), -10000 - at[i]);
        }
        Due.is("as at first", x.between(0, 1, 1), 10);
    }

    private static void person() {
        VotedUnseen x = Due.town(THREE);
        x.tells(0, 1);
        x.owes(0, 1, 5);
        x.owes(0, 2, 6);
        x.owes(2, 0, 9);
        x.months(1);
        x.goes(2);
        // All vote for 1 but 1, who votes for 2; 1 takes none of the bread of 2, who has none.
        Due.is("bread of 0", x.person(0, 0), 5);
        Due.is("bread of 1", x.person(1, 0), 1);
        Due.is("secrets of 1", x.person(1, 1), 7);
        Due.is("times of 1", x.person(1, 2), 1);
        Due.is("times of 0", x.person(0, 2), 0);
        Due.is("away", x.person(2, 3), 1);
        Due.is("here", x.person(0, 3), 0);
        Due.is("nobody to vote for", x.person(0, 4), -1);
        Due.is("votes", x.person(1, 4), 0);
        Due.is("away, no vote", x.person(2, 4), -1);
        Due.is("debts of 0", x.person(0, 5), 12);
        Due.is("debts to 0", x.person(0, 6), 10);
        Due.is("debts to the unseen stood still", x.person(1, 6), 5);
        int[] noSuch = {-1, 3, 8, Integer.MIN_VALUE, Integer.MAX_VALUE};
        for (int one : noSuch) {
            Due.missing("person " + one, () -> x.person(one, 0));
        }
        int[] noWhat = {-1, 7, Integer.MIN_VALUE, Integer.MAX_VALUE};
        for (int what : noWhat) {
            Due.missing("person what " + what, () -> x.person(0, what));
        }
    }

    private static void between() {
        VotedUnseen x = Due.town(THREE);
        x.owes(2, 1, 40);
        Due.is("liking", x.between(0, 1, 0), 5);
        Due.is("liking the other way", x.between(1, 0, 0), 2);
        Due.is("gladness", x.between(2, 1, 1), 14);
        Due.is("debt", x.between(2, 1, 2), 40);
        Due.is("debt the other way", x.between(1, 2, 2), 0);
        int[] noSuch = {-1, 3, Integer.MIN_VALUE, Integer.MAX_VALUE};
        for (int one : noSuch) {
            Due.missing("between first " + one, () -> x.between(one, 0, 0));
            Due.missing("between second " + one, () -> x.between(0, one, 0));
            Due.missing("between what " + one, () -> x.between(0, 1, one));
        }
        Due.missing("between like ones", () -> x.between(1, 1, 0));
    }

    private static void gladness() {
        VotedUnseen x = Due.town(THREE);
        x.owes(0, 1, 50);
        x.tells(0, 1);
        x.months(13);
        // 0 of 1: LIKING 5.
        int t = x.person(1, 2);
        int b = x.person(1, 0);
        int d = x.between(0, 1, 2);
        String[] texts = {"l", "t", "s", "b", "d", "m", "7", "999", "l*2-t+s*3", "-l", "--l", "---l", "l--3",
            "10-3-2", "100/7/2", "7/0", "-7/2", "7/-2", "1+2*3", "(1+2)*3", "2*3+4*5", "l<6", "l<5", "l>4", "l>5",
            "l=5", "l=4", "1<2+3", "(1<2)+3", "2*-3", "-2*3", "-(1+2)", "1=1*0", "(l=5)*10+(l>5)*20", "8/3*3",
            "999*999*999*999*999", "(0-999)/999", "(1<2)=(3<4)"};
        int big = 999 * 999 * 999;
        int[] want = {5, t, 1, b, d, 1, 7, 999, 10 - t + 3, -5, 5, -5, 8, 5, 7, 0, -3, -3, 7, 9, 26, 1, 0, 1, 0,
            1, 0, 1, 4, -6, -6, -3, 0, 10, 6, big * 999 * 999, -1, 1};
        for (int i = 0; i < texts.length; i++) {
            Due.is("rule " + texts[i], Due.rule(x, texts[i]), 0);
            Due.is("gladness by " + texts[i], x.between(0, 1, 1), want[i]);
        }
        // The least int by -1 is itself: 2^31 is 128 * 128 * 128 * 128 * 8.
        Due.rule(x, "128*128*128*128*8/-1");
        Due.is("least int by -1", x.between(0, 1, 1), Integer.MIN_VALUE);
        Due.rule(x, "s");
        Due.is("1 was told nothing by 2", x.between(2, 0, 1), x.person(0, 1) >> 2 & 1);
    }

    private static void sheet() {
        VotedUnseen x = Due.town(THREE);
        Due.is("another kind", x.sheet(4, 0, 0, 0), -1);
        Due.is("kind below", x.sheet(-1, 0, 0, 0), -1);
        Due.is("too many", x.sheet(0, 9, 1, 1), -1);
        Due.is("too many of a missing one", x.sheet(3, 9, 1, 1), -1);
        Due.is("kind ahead of below 0", x.sheet(4, -1, 0, 0), -1);
        for (int kind = 0; kind < 3; kind++) {
            Due.is("below 0", x.sheet(kind, -1, 7, 7), -2);
            Due.is("far below 0", x.sheet(kind, Integer.MIN_VALUE, 7, 7), -2);
        }
        Due.is("nothing changed", x.count(4), 5);
        Due.is("ints", x.sheet(2, 3, 10, 20), 90);
        Due.is("first", x.person(0, 0), 10);
        Due.is("last", x.person(2, 0), 50);
        Due.is("fewer", x.sheet(2, 1, 10, 20), 10);
        Due.is("behind it 0", x.person(1, 0), 0);
        Due.is("more entries than people", x.sheet(2, 8, 1, 1), 6);
        Due.is("put to 0 .. 99", x.sheet(2, 3, -50, 100), 149);
        Due.is("below 0 is 0", x.person(0, 0), 0);
        Due.is("bytes", x.sheet(0, 3, 256, 101), 99);
        Due.is("byte 256 is 0", x.person(0, 0), 0);
        Due.is("byte 357 is 101, put to 99", x.person(1, 0), 99);
        Due.is("byte 458 is -54, put to 0", x.person(2, 0), 0);
        Due.is("shorts", x.sheet(1, 3, 65536 + 7, 32768), 14);
        Due.is("short 65543 is 7", x.person(0, 0), 7);
        Due.is("short 98311 is below 0", x.person(1, 0), 0);
        Due.is("short 131079 is 7", x.person(2, 0), 7);
        Due.is("ints wrap around", x.sheet(2, 3, Integer.MAX_VALUE, 1), 99);
        Due.is("wrapped is 0", x.person(1, 0), 0);
        Due.is("steps wrap around", x.sheet(2, 3, 5, Integer.MIN_VALUE), 10);
        Due.is("missing", x.sheet(3, 2, 5, 5), -3);
        Due.is("all 0", x.count(4), 0);
        x.sheet(2, 3, 1, 1);
        Due.is("missing, below 0", x.sheet(3, -7, 5, 5), -3);
        Due.is("all 0 again", x.count(4), 0);
        Due.is("no entries", x.sheet(2, 0, 5, 5), 0);
        Due.is("is not undone", x.count(9), 0);
        Due.row("tells no row", x);
    }
}
