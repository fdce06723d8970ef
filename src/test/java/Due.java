import java.util.Arrays;
import java.util.List;
import java.util.NoSuchElementException;

/** Counts answers that are not the ones that are due. */
final class Due {
    private static int right = 0;
    private static int wrong = 0;

    private Due() {
    }

    interface Call {
        long answer();
    }

    static void is(String what, long got, long want) {
        if (got == want) {
            right++;
        } else {
            wrong++;
            System.out.println(what + " answered " + got + ", due is " + want);
        }
    }

    static void is(String what, boolean got, boolean want) {
        is(what, got ? 1 : 0, want ? 1 : 0);
    }

    /** The whole ROW, its length too, and that nothing stands behind it. */
    static void row(String what, VotedUnseen x, long... want) {
        long[] got = rowOf(x);
        if (Arrays.equals(got, want)) {
            right++;
        } else {
            wrong++;
            System.out.println(what + " told " + Arrays.toString(got) + ", due is " + Arrays.toString(want));
        }
        missing(what + ", row behind its end", () -> x.row(want.length));
        missing(what + ", row ahead of its beginning", () -> x.row(-1));
    }

    static long[] rowOf(VotedUnseen x) {
        long[] row = new long[x.count(10)];
        for (int i = 0; i < row.length; i++) {
            row[i] = x.row(i);
        }
        return row;
    }

    static void missing(String what, Call call) {
        try {
            long answer = call.answer();
            wrong++;
            System.out.println(what + " answered " + answer + ", due is a NoSuchElementException");
        } catch (NoSuchElementException e) {
            right++;
        }
    }

    /** Two tellings of all are alike; else the first line that is not. */
    static void alike(String what, List<String> got, List<String> want) {
        for (int i = 0; i < got.size() && i < want.size(); i++) {
            if (!got.get(i).equals(want.get(i))) {
                wrong++;
                System.out.println(what + " tells " + got.get(i) + ", due is " + want.get(i));
                return;
            }
        }
        is(what + ", how much is told", got.size(), want.size());
    }

    /** Makes THE TEXT. */
    static void text(VotedUnseen x, String text) {
        x.end(0);
        for (int at = 0; at < text.length(); at += 4) {
            int v = 0;
            for (int i = at; i < at + 4; i++) {
                v = v << 8 | (i < text.length() ? text.charAt(i) : 0);
            }
            x.sign(v);
        }
        if (!x.end(text.length())) {
            throw new IllegalStateException("the text did not come: " + text);
        }
    }

    static VotedUnseen town(String people) {
        VotedUnseen x = new VotedUnseen();
        text(x, people);
        if (x.people() < 0) {
            throw new IllegalStateException("the people did not come: " + people);
        }
        return x;
    }

    static int people(VotedUnseen x, String text) {
        text(x, text);
        return x.people();
    }

    static int walk(VotedUnseen x, String text) {
        text(x, text);
        return x.walk();
    }

    static int rule(VotedUnseen x, String text) {
        text(x, text);
        return x.rule();
    }

    static int year(VotedUnseen x, String text) {
        text(x, text);
        return x.year();
    }

    static int law(VotedUnseen x, String text) {
        text(x, text);
        return x.law();
    }

    static void finish() {
        System.out.println(right + " answers as due, " + wrong + " not");
        if (wrong != 0 || right == 0) {
            System.exit(1);
        }
    }
}
