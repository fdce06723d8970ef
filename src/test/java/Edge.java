import java.util.ArrayList;
import java.util.Collections;
import java.util.List;

/** Calls at the edge: the answer that is due, and by a twin without the call that nothing else changed. */
final class Edge {
    static final String LINE = "000000000";
    // Votes: 0 for 2, 1, 2 and 3 for 0.
    static final String FOUR = "059100005;900000006;910000007;900000008";

    private static final int[] WILD = {-1, Integer.MIN_VALUE, Integer.MAX_VALUE};

    private Edge() {
    }

    interface Make {
        VotedUnseen make();
    }

    interface On {
        long on(VotedUnseen x);
    }

    interface OnPerson {
        long on(VotedUnseen x, int person);
    }

    static String lines(int n) {
        return String.join(";", Collections.nCopies(n, LINE));
    }

    static VotedUnseen four() {
        return Due.town(FOUR);
    }

    static VotedUnseen empty() {
        return new VotedUnseen();
    }

    /**
     * Four people in the middle of things: of all that an object can hold there is something.
     * 0 was UNSEEN, then 2, who is; 3 is AWAY; 0 would have two votes, 1 one; 2 owes 999 to 3, 1 owes 31 to 2.
     */
    static VotedUnseen busy() {
        VotedUnseen x = four();
        Due.walk(x, "132");
        Due.rule(x, "l*2-t+d/5");
        x.owes(1, 2, 30);
        x.owes(2, 3, 998);
        x.tells(3, 1);
        x.keep(1);
        x.months(2);
        x.goes(3);
        x.gives(2, 1, 1);
        x.keep(2);
        x.noticed(0, 1);
        x.noticed(1, 3);
        x.vote();
        Due.text(x, "17");
        return x;
    }

    /** The call answers so and changes nothing. */
    static void refused(String what, Make make, On call, long want) {
        VotedUnseen x = make.make();
        Due.is(what, call.on(x), want);
        Due.alike(what + " is refused", everything(x, true), everything(make.make(), true));
    }

    /** The call, which reads THE TEXT, answers so and changes nothing, but that THE TEXT is empty. */
    static void refusedText(String what, Make make, String text, On call, long want) {
        VotedUnseen x = make.make();
        Due.text(x, text);
        Due.is(what, call.on(x), want);
        Due.is(what + " empties THE TEXT", x.count(11), 0);
        VotedUnseen twin = make.make();
        twin.end(0);
        Due.alike(what + " is refused", everything(x, true), everything(twin, true));
    }

    /** The call answers so, tells such a ROW, whatever was told ahead of it, and changes nothing else. */
    static void question(String what, Make make, On call, long want, long... row) {
        VotedUnseen x = make.make();
        Due.is(what, call.on(x), want);
        Due.row(what, x, row);
        Due.alike(what + " is a question", everything(x, false), everything(make.make(), false));
        VotedUnseen told = make.make();
        told.ahead(99);
        Due.is(what + " behind a ROW", call.on(told), want);
        Due.row(what + " behind a ROW", told, row);
        told.vote();
        Due.is(what + " behind another ROW", call.on(told), want);
        Due.row(what + " behind another ROW", told, row);
    }

    /** The call throws what is promised and changes nothing. */
    static void missing(String what, Make make, On call) {
        VotedUnseen x = make.make();
        Due.missing(what, () -> call.on(x));
        Due.alike(what + " is refused", everything(x, true), everything(make.make(), true));
    }

    /** For persons just outside a town, and far outside, the call answers NONE and changes nothing. */
    static void noSuch(String what, Make make, OnPerson call) {
        int[] outside = {make.make().count(0), 8, WILD[0], WILD[1], WILD[2]};
        for (int person : outside) {
            refused(what + " of " + person, make, x -> call.on(x, person), VotedUnseen.NONE);
        }
    }

    /** All that calls tell of an object, which is used up by it. */
    private static List<String> everything(VotedUnseen x, boolean withRow) {
        List<String> all = new ArrayList<>();
        if (withRow) {
            tellRow(x, all);
        }
        for (int what = 0; what < 12; what++) {
            if (what != 10) {
                all.add("count " + what + ": " + x.count(what));
            }
        }
        tellPeople(x, all);
        tellHeard(x, all);
        all.add("fits " + x.fits());
        // What THE TEXT is, told by the walk that it makes.
        all.add("text as a walk " + x.walk());
        tellHeard(x, all);
        tellPast(x, all);
        for (int i = 0; i < 3; i++) {
            all.add("again " + i + ": " + x.again(i));
            tellTown(x, all);
        }
        tellPeople(x, all);
        return all;
    }

    private static void tellRow(VotedUnseen x, List<String> all) {
        for (long number : Due.rowOf(x)) {
            all.add("row " + number);
        }
        all.add("row ends");
    }

    private static void tellPeople(VotedUnseen x, List<String> all) {
        for (int one = 0; one < x.count(0); one++) {
            for (int what = 0; what < 7; what++) {
                all.add("person " + one + " " + what + ": " + x.person(one, what));
            }
            for (int other = 0; other < x.count(0); other++) {
                for (int what = 0; what < 3 && one != other; what++) {
                    all.add("between " + one + " " + other + " " + what + ": " + x.between(one, other, what));
                }
            }
        }
    }

    private static void tellHeard(VotedUnseen x, List<String> all) {
        for (int one = 0; one < x.count(0); one++) {
            all.add("hears " + one + ": " + x.hears(one));
        }
    }

    private static void tellPast(VotedUnseen x, List<String> all) {
        for (int i = 0; i < 16; i++) {
            all.add("undo: " + x.undo());
            tellTown(x, all);
        }
    }

    private static void tellTown(VotedUnseen x, List<String> all) {
        for (int what = 1; what < 7; what++) {
            all.add("then count " + what + ": " + x.count(what));
        }
    }
}
