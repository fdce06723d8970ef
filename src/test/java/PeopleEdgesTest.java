/** The edges that the promises 1 to 9 name, each sentence by itself. */
final class PeopleEdgesTest {
    private static final int LEAST = Integer.MIN_VALUE;
    private static final int MOST = Integer.MAX_VALUE;

    public static void main(String[] args) {
        newObject();
        nothingOfNobody();
        signsUpToEighty();
        signsHighestByteFirst();
        endWithinTheText();
        emptyPeople();
        peopleThatEndTooEarly();
        peopleWithAWrongSign();
        peopleWithoutRoom();
        peopleAboveSeventyNine();
        walkOfNone();
        walkDigits();
        walkOfNine();
        ruleOfForty();
        ruleAnew();
        personOutside();
        personAtItsEdges();
        betweenOutside();
        betweenAtItsEdges();
        sheetRefused();
        sheetBelowNone();
        sheetMissing();
        sheetOfBytesShortsInts();
        sheetOfFewerAndMore();
        Due.finish();
    }

    private static void newObject() {
        VotedUnseen x = new VotedUnseen();
        int[] counts = {0, 0, -1, 0, 0, 0, 0, 1, 0, 0, 0, 0, -100};
        for (int what = 0; what < counts.length; what++) {
            Due.is("new, count " + what, x.count(what), counts[what]);
        }
        Due.row("new", x);
    }

    private static void nothingOfNobody() {
        Edge.OnPerson[] ofOne = {VotedUnseen::when, VotedUnseen::learns, VotedUnseen::without, VotedUnseen::swings,
            VotedUnseen::hears, VotedUnseen::net, VotedUnseen::power, VotedUnseen::goes, (x, one) -> x.stands(one, 0),
            (x, one) -> x.likely(one, 5), (x, one) -> x.spared(one, 1), (x, one) -> x.tells(one, 1),
            (x, one) -> x.gives(one, 1, 1), (x, one) -> x.owes(one, 1, 1), (x, one) -> x.later(one, 1, 1)};
        for (int i = 0; i < ofOne.length; i++) {
            Edge.noSuch("nobody, call " + i, Edge::empty, ofOne[i]);
        }
        Edge.refused("holds without PEOPLE", Edge::empty, VotedUnseen::holds, -2);
        Edge.refused("ears without PEOPLE", Edge::empty, VotedUnseen::ears, -2);
        Edge.refused("gossip without PEOPLE", Edge::empty, VotedUnseen::gossip, -2);
        Edge.refused("ask without PEOPLE", Edge::empty, VotedUnseen::ask, -2);
        Edge.refused("undo without any", Edge::empty, VotedUnseen::undo, -1);
        Edge.question("vote without PEOPLE", Edge::empty, VotedUnseen::vote, -2);
        Edge.question("duels without PEOPLE", Edge::empty, VotedUnseen::duels, -2);
        Edge.question("chain without PEOPLE", Edge::empty, VotedUnseen::chain, 0);
        Edge.question("pairs without PEOPLE", Edge::empty, VotedUnseen::pairs, 0);
        Edge.question("fits without PEOPLE", Edge::empty, VotedUnseen::fits, 0, 0);
        Edge.question("ahead without PEOPLE", Edge::empty, x -> x.ahead(99), -2, 0, 0);
        Edge.question("law without PEOPLE", Edge::empty, VotedUnseen::law, 0, 0, -2);
        Edge.question("years without PEOPLE", Edge::empty, x -> x.years(1, 60), 0, -1, 0);
    }

    private static VotedUnseen withSigns(int n) {
        VotedUnseen x = new VotedUnseen();
        for (int i = 0; i < 20; i++) {
            x.sign(0x31323334);
        }
        x.end(n);
        return x;
    }

    private static void signsUpToEighty() {
        for (int n = 0; n <= 80; n++) {
            int at = n;
            if (n <= 76) {
                Due.is("sign behind " + n, withSigns(n).sign(0x35363731), n + 4);
            } else {
                Edge.refused("sign behind " + n, () -> withSigns(at), x -> x.sign(0x35363731), -1);
            }
        }
    }

    private static void signsHighestByteFirst() {
        VotedUnseen x = Due.town(Edge.lines(8));
        x.sign(0x31323334);
        Due.is("1234", x.walk(), 4);
        int[] faults = {0xB1313131, 0x31B13131, 0x3131B131, 0x313131B1, 0, -1, LEAST, MOST};
        int[] at = {0, 1, 2, 3, 0, 0, 0, 0};
        for (int i = 0; i < faults.length; i++) {
            x.sign(faults[i]);
            Due.is("a byte that is no digit", x.walk(), -1 - at[i]);
        }
        x.sign(0x37000000);
        x.end(1);
        Due.is("7", x.walk(), 1);
        Due.is("the highest byte came first", x.hears(0), 129);
    }

    private static void endWithinTheText() {
        for (int n = 0; n <= 4; n++) {
            VotedUnseen x = new VotedUnseen();
            x.sign(0x31313131);
            Due.is("end at " + n, x.end(n), true);
            Due.is("signs left", x.count(11), n);
            Due.is("the same end again", x.end(n), true);
            Due.is("an end behind it", x.end(n + 1), false);
        }
        VotedUnseen cut = Due.town(Edge.lines(8));
        cut.sign(0x31323334);
        cut.end(1);
        cut.sign(0x37373737);
        Due.is("its first n signs alone, then others", cut.walk(), 5);
        Due.is("1 and 7 are left", cut.hears(0), 131);
        int[] outside = {-1, 5, 80, LEAST, MOST};
        for (int n : outside) {
            Edge.refused("end at " + n + " of 4", () -> withSigns(4), x -> x.end(n) ? 1 : 0, 0);
        }
        Edge.refused("end at 81 of 80", () -> withSigns(80), x -> x.end(81) ? 1 : 0, 0);
        Due.is("end at 80 of 80", withSigns(80).end(80), true);
        Edge.refused("end at 3 of 2, busy", Edge::busy, x -> x.end(3) ? 1 : 0, 0);
    }

    private static void emptyPeople() {
        Edge.refusedText("an empty text: nothing", Edge::busy, "", VotedUnseen::people, 0);
        Edge.refusedText("an empty text for a full town", () -> Due.town(Edge.lines(8)), "", VotedUnseen::people, 0);
        Edge.refusedText("an empty text for nobody", Edge::empty, "", VotedUnseen::people, 0);
    }

    private static void peopleThatEndTooEarly() {
        String text = "123456789;123456789;123456789";
        for (int n = 1; n <= text.length(); n++) {
            String begun = text.substring(0, n);
            if ((n + 1) % 10 == 0) {
                Due.is("LINES " + begun, Due.people(new VotedUnseen(), begun), (n + 1) / 10);
            } else {
                Edge.refusedText("too early " + begun, Edge::busy, begun, VotedUnseen::people, -1 - n);
            }
        }
    }

    private static void peopleWithAWrongSign() {
        String text = "123456789;123456789";
        String[] wrong = {"x", " ", "/", ":", "-", ",", "\n", "\0", "\u00ff"};
        for (int at = 0; at < text.length(); at++) {
            String ahead = text.substring(0, at);
            String behind = text.substring(at + 1);
            String other = text.charAt(at) == ';' ? "0" : ";";
            Edge.refusedText("at " + at + " " + other, Edge::busy, ahead + other + behind, VotedUnseen::people,
                -1 - at);
            for (String sign : wrong) {
                Due.is("at " + at + " another sign", Due.people(new VotedUnseen(), ahead + sign + behind), -1 - at);
            }
            Due.is("the first of two faults", Due.people(new VotedUnseen(), ahead + "x" + behind + "x"), -1 - at);
        }
    }

    private static void peopleWithoutRoom() {
        for (int there = 1; there <= 8; there++) {
            int room = 8 - there;
            int full = there;
            Edge.Make make = () -> Due.town(Edge.lines(full));
            if (room > 0) {
                VotedUnseen x = make.make();
                Due.is("room for " + room, Due.people(x, Edge.lines(room)), room);
                Due.is("then there are 8", x.count(0), 8);
                // A ; with nothing behind it ends too early, room or not.
                Edge.refusedText("a ; at the end", make, Edge.lines(room) + ";", VotedUnseen::people, -1 - room * 10);
                Edge.refusedText("a fault ahead of it", make, "0x" + Edge.lines(room + 1).substring(2),
                    VotedUnseen::people, -2);
            }
            int first = room * 10;
            Edge.refusedText("no room for one more", make, Edge.lines(room + 1), VotedUnseen::people, -1 - first);
            Edge.refusedText("no room, one not whole", make, Edge.lines(room + 1).substring(0, first + 3),
                VotedUnseen::people, -1 - first);
        }
        Edge.refusedText("no room for eight more, busy", Edge::busy, Edge.lines(8), VotedUnseen::people, -41);
    }

    private static void peopleAboveSeventyNine() {
        Due.is("79 signs", Due.people(new VotedUnseen(), Edge.lines(8)), 8);
        String[] more = {";", "0", "x", "\0"};
        for (String sign : more) {
            Edge.refusedText("80 signs", Edge::empty, Edge.lines(8) + sign, VotedUnseen::people, -80);
        }
        Edge.refusedText("80 signs, a fault at 78", Edge::empty, Edge.lines(8).substring(0, 78) + "x0",
            VotedUnseen::people, -79);
        Edge.refusedText("80 signs, a fault at 0", Edge::empty, "x" + Edge.lines(8), VotedUnseen::people, -1);
        Edge.refusedText("80 signs, no room at 70", () -> Due.town(Edge.LINE), Edge.lines(8) + ";",
            VotedUnseen::people, -71);
        Edge.refusedText("78 signs", Edge::empty, Edge.lines(8).substring(0, 78), VotedUnseen::people, -79);
    }

    private static void walkOfNone() {
        Edge.refusedText("a walk of none", Edge::busy, "", VotedUnseen::walk, -1);
        Edge.refusedText("a walk of none at first", Edge::empty, "", VotedUnseen::walk, -1);
    }

    private static void walkDigits() {
        for (int digit = 1; digit <= 7; digit++) {
            VotedUnseen x = Due.town(Edge.lines(8));
            Due.is("a walk of " + digit, Due.walk(x, "" + digit), 1);
            Due.is("goes by " + digit, x.hears(0), 1 | 1 << digit);
        }
        String[] wrong = {"0", "8", "9", "/", ":", "x", ";", "\u00b1"};
        for (String sign : wrong) {
            Edge.refusedText("a walk of " + sign, Edge::busy, sign, VotedUnseen::walk, -1);
            Edge.refusedText("a walk of 17" + sign, Edge::busy, "17" + sign, VotedUnseen::walk, -3);
            Edge.refusedText("an eighth " + sign, Edge::busy, "1234567" + sign, VotedUnseen::walk, -8);
        }
    }

    private static void walkOfNine() {
        VotedUnseen x = Due.town(Edge.lines(8));
        for (int n = 1; n <= 8; n++) {
            Due.is("a walk of " + n + " digits", Due.walk(x, "11111117".substring(8 - n)), n);
            Due.is("digits", x.count(7), n);
        }
        Due.is("the eighth digit counts", x.hears(0), 131);
        Due.is("anew: the former digits are gone", Due.walk(x, "2"), 1);
        Due.is("anew", x.hears(0), 5);
        x.months(1);
        Due.is("anew in a MONTH", x.person(0, 1), 5);
        VotedUnseen far = Due.town(Edge.lines(8));
        Due.walk(far, "11111117");
        far.months(1);
        Due.is("eight digits in a MONTH", far.person(0, 1), 131);
        String[] ninth = {"1", "0", "x", "1111", "1".repeat(72)};
        for (String more : ninth) {
            Edge.refusedText("a ninth sign", Edge::busy, "12345671" + more, VotedUnseen::walk, -9);
        }
        Edge.refusedText("nine, the eighth can't stand", Edge::busy, "123456701", VotedUnseen::walk, -8);
    }

    private static void ruleOfForty() {
        Edge.refusedText("a fourth digit at 39", Edge::busy, "1+".repeat(18) + "1234", VotedUnseen::rule, -40);
        String sum = "1+".repeat(19) + "12";
        VotedUnseen x = Edge.four();
        Due.is("a rule of 40 signs", Due.rule(x, sum), 0);
        Due.is("all 40 count", x.between(0, 1, 1), 31);
        String[] texts = {sum + "3", sum + "+", sum + "x", sum + ")", sum + "1".repeat(40), "1+".repeat(20) + "1",
            "(" + "1+".repeat(19) + "1)", "-".repeat(41), "1+".repeat(18) + "(111)"};
        for (String text : texts) {
            Edge.refusedText("a rule of more than 40: " + text, Edge::busy, text, VotedUnseen::rule, -41);
            Edge.refusedText("a law of more than 40: " + text, Edge::busy, text, VotedUnseen::law, -10040);
        }
        Edge.refusedText("40 signs that end too early", Edge::busy, "1+".repeat(20), VotedUnseen::rule, -41);
        Edge.refusedText("40 signs, a ( open", Edge::busy, "(" + "1+".repeat(19) + "1", VotedUnseen::rule, -41);
        Edge.refusedText("41 signs, a fault at 39", Edge::busy, "1+".repeat(19) + "1)1", VotedUnseen::rule, -40);
        Edge.refusedText("41 signs, a fault at 0", Edge::busy, "x" + sum, VotedUnseen::rule, -1);
    }

    private static void ruleAnew() {
        VotedUnseen x = Edge.four();
        Due.is("a rule", Due.rule(x, "3"), 0);
        Due.is("by it", x.between(0, 1, 1), 3);
        Due.is("another one", Due.rule(x, "4"), 0);
        Due.is("by the other one", x.between(0, 1, 1), 4);
        Due.is("refused", Due.rule(x, "5+"), -3);
        Due.is("by the other one still", x.between(0, 1, 1), 4);
        Due.is("another law", Due.law(x, "6"), 0);
        Due.is("by the other one after a law", x.between(0, 1, 1), 4);
        Due.is("an empty one", Due.rule(x, ""), 0);
        Due.is("as at first", x.between(0, 1, 1), 10);
        // Nothing is left of a longer rule.
        Due.rule(x, "-l");
        Due.rule(x, "-l");
        Due.rule(x, "l");
        Due.is("a shorter one", x.between(0, 1, 1), 5);
        Due.is("forty things and signs", Due.rule(x, "-l" + "+l".repeat(19)), 0);
        Due.is("by all of them", x.between(0, 1, 1), 90);
    }

    private static void personOutside() {
        int[] outside = {-1, 4, 8, LEAST, MOST};
        int[] others = {-1, 7, LEAST, MOST};
        for (int one : outside) {
            Edge.missing("person " + one, Edge::busy, x -> x.person(one, 0));
            Edge.missing("person " + one + " and another what", Edge::busy, x -> x.person(one, 7));
        }
        for (int what : others) {
            Edge.missing("what " + what, Edge::busy, x -> x.person(0, what));
        }
        Edge.missing("person of nobody", Edge::empty, x -> x.person(0, 0));
    }

    private static void personAtItsEdges() {
        VotedUnseen x = Due.town(Edge.lines(8));
        for (int other = 1; other < 8; other++) {
            x.owes(0, other, 999);
            x.owes(other, 0, 999);
        }
        Due.is("most DEBTS of one", x.person(0, 5), 6993);
        Due.is("most DEBTS to one", x.person(0, 6), 6993);
        Due.is("DEBTS of the last", x.person(7, 5), 999);
        Due.is("DEBTS to the last, of the first", x.person(7, 6), 999);
        Due.is("BREAD of the last", x.person(7, 0), 0);
        Due.is("SECRETS of the last", x.person(7, 1), 128);
        Due.is("vote of the last", x.person(7, 4), 0);
        x.goes(7);
        Due.is("the last is AWAY", x.person(7, 3), 1);
        Due.is("no vote of one AWAY", x.person(7, 4), -1);
        x.goes(7);
        Due.is("the last is HERE", x.person(7, 3), 0);
    }

    private static void betweenOutside() {
        int[] outside = {-1, 4, 8, LEAST, MOST};
        int[] others = {-1, 3, LEAST, MOST};
        for (int one : outside) {
            Edge.missing("between " + one + " and 0", Edge::busy, x -> x.between(one, 0, 0));
            Edge.missing("between 0 and " + one, Edge::busy, x -> x.between(0, one, 0));
            Edge.missing("between " + one + " and itself", Edge::busy, x -> x.between(one, one, 0));
        }
        for (int what : others) {
            Edge.missing("between, what " + what, Edge::busy, x -> x.between(0, 1, what));
        }
        for (int one = 0; one < 4; one++) {
            int like = one;
            Edge.missing("between like ones " + one, Edge::busy, x -> x.between(like, like, 2));
        }
    }

    private static void betweenAtItsEdges() {
        VotedUnseen x = Edge.four();
        Due.is("first for last", x.between(0, 3, 0), 1);
        Due.is("last for first", x.between(3, 0, 0), 9);
        Due.is("GLADNESS of the last", x.between(3, 0, 1), 18);
        x.owes(3, 0, 999);
        Due.is("most DEBT", x.between(3, 0, 2), 999);
        Due.is("no DEBT the other way", x.between(0, 3, 2), 0);
        x.goes(3);
        Due.is("GLADNESS of one AWAY", x.between(3, 0, 1), 18);
        x.months(1);
        Due.is("GLADNESS for UNSEEN", x.between(3, 0, 1), 17);
    }

    private static void sheetRefused() {
        int[] kinds = {-1, 4, LEAST, MOST};
        int[] entries = {0, 8, 9, -1, LEAST, MOST};
        for (int kind : kinds) {
            for (int n : entries) {
                Edge.refused("sheet of kind " + kind + ", " + n, Edge::busy, x -> x.sheet(kind, n, 7, 1), -1);
            }
        }
        for (int kind = 0; kind <= 3; kind++) {
            int like = kind;
            Edge.refused("sheet of 9, kind " + kind, Edge::busy, x -> x.sheet(like, 9, 7, 1), -1);
            Edge.refused("sheet of most, kind " + kind, Edge::busy, x -> x.sheet(like, MOST, 7, 1), -1);
        }
    }

    private static void sheetBelowNone() {
        for (int kind = 0; kind <= 2; kind++) {
            int like = kind;
            Edge.refused("sheet of -1, kind " + kind, Edge::busy, x -> x.sheet(like, -1, 7, 1), -2);
            Edge.refused("sheet of least, kind " + kind, Edge::busy, x -> x.sheet(like, LEAST, 7, 1), -2);
        }
    }

    private static void sheetMissing() {
        int[] entries = {0, 1, 8, -1, LEAST};
        for (int n : entries) {
            VotedUnseen x = Edge.four();
            Due.is("a missing sheet, n " + n, x.sheet(3, n, 7, 1), -3);
            Due.is("all 0", x.count(4), 0);
            Due.is("nothing to undo", x.count(9), 0);
        }
    }

    private static void sheetOfBytesShortsInts() {
        sheetOfOne(2, 99, 99);
        sheetOfOne(2, 100, 99);
        sheetOfOne(2, 0, 0);
        sheetOfOne(2, -1, 0);
        sheetOfOne(2, LEAST, 0);
        sheetOfOne(2, MOST, 99);
        sheetOfOne(0, 127, 99);
        sheetOfOne(0, 128, 0);
        sheetOfOne(0, 255, 0);
        sheetOfOne(0, 256, 0);
        sheetOfOne(0, 257, 1);
        sheetOfOne(0, -128, 0);
        sheetOfOne(0, -129, 99);
        sheetOfOne(0, -255, 1);
        sheetOfOne(1, 32767, 99);
        sheetOfOne(1, 32768, 0);
        sheetOfOne(1, 65535, 0);
        sheetOfOne(1, 65536, 0);
        sheetOfOne(1, 65537, 1);
        sheetOfOne(1, 257, 99);
        sheetOfOne(1, -32769, 99);
        sheetOfOne(1, -65535, 1);
        VotedUnseen x = Edge.four();
        Due.is("steps around the most int", x.sheet(2, 4, MOST, 1), 99);
        Due.is("the first", x.person(0, 0), 99);
        Due.is("around", x.person(1, 0), 0);
        Due.is("steps downwards", x.sheet(2, 4, 2, -1), 3);
        Due.is("steps of bytes around", x.sheet(0, 4, 126, 130), 103);
        Due.is("steps of none", x.sheet(1, 4, 7, 0), 28);
    }

    private static void sheetOfOne(int kind, int entry, int want) {
        VotedUnseen x = Due.town("000000005");
        Due.is("sheet of kind " + kind + ", " + entry, x.sheet(kind, 1, entry, 0), want);
        Due.is("BREAD by it", x.person(0, 0), want);
    }

    private static void sheetOfFewerAndMore() {
        for (int n = 0; n <= 8; n++) {
            VotedUnseen x = Edge.four();
            int told = Math.min(n, 4);
            Due.is("sheet of " + n, x.sheet(2, n, 10, 0), told * 10);
            for (int one = 0; one < 4; one++) {
                Due.is("BREAD of " + one + " by " + n, x.person(one, 0), one < n ? 10 : 0);
            }
        }
        VotedUnseen eight = Due.town(Edge.lines(8));
        Due.is("sheet of 8 for 8", eight.sheet(2, 8, 99, 0), 792);
        Due.is("sheet for nobody", new VotedUnseen().sheet(2, 8, 99, 0), 0);
        VotedUnseen later = Due.town(Edge.LINE);
        later.sheet(2, 2, 50, 0);
        Due.people(later, Edge.LINE);
        Due.is("a sheet is of those who are there", later.person(1, 0), 0);
    }
}
