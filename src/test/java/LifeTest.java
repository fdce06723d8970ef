import java.lang.reflect.Array;
import java.lang.reflect.Field;
import java.lang.reflect.Modifier;
import java.util.ArrayDeque;
import java.util.Collections;
import java.util.Deque;
import java.util.IdentityHashMap;
import java.util.Set;

/** 'What it is': an object is used for 512 calls; to the last one it answers as due, in the room that it had at first. */
final class LifeTest {
    private static final int CALLS = 512;
    // By the room of a run, 600,000 objects of 7.3 million fields and elements, some thousand towns can be made.
    private static final int MOST_OBJECTS = 300;
    private static final int MOST_FIELDS = 5000;

    public static void main(String[] args) {
        monthsToTheLastCall();
        actsToTheLastCall();
        roomOfAllCalls();
        Due.finish();
    }

    /** 22 calls make the town, 489 are months of 60, the last one asks. */
    private static void monthsToTheLastCall() {
        VotedUnseen x = eight();
        int calls = 22;
        for (; calls < CALLS - 1; calls++) {
            int unseen = x.months(60);
            if (unseen < 0 || unseen > 7) {
                Due.is("months(60), call " + (calls + 1), unseen, 0);
            }
        }
        Due.is("calls so far", calls, CALLS - 1);
        Due.is("the last call", x.count(1), 489 * 60);
    }

    /** Acts and their undoing by turns: none is lost and none is left. */
    private static void actsToTheLastCall() {
        VotedUnseen x = eight();
        int calls = 22;
        int debt = 0;
        for (; calls < CALLS - 2; calls += 2) {
            Due.is("owes, call " + (calls + 1), x.owes(7, 6, 2), debt + 2);
            debt += 2;
            if (calls % 32 == 0) {
                Due.is("undo, call " + (calls + 2), x.undo(), Math.min(15, debt / 2) - 1);
                debt -= 2;
            } else {
                Due.is("between, call " + (calls + 2), x.between(7, 6, 2), debt);
            }
        }
        Due.is("calls so far", calls, CALLS - 2);
        Due.is("undo, the last call but one", x.undo(), 14);
        Due.is("the last call", x.between(7, 6, 2), debt - 2);
    }

    private static VotedUnseen eight() {
        VotedUnseen x = new VotedUnseen();
        String text = Edge.lines(8);
        for (int at = 0; at < 80; at += 4) {
            int v = 0;
            for (int i = at; i < at + 4; i++) {
                v = v << 8 | (i < text.length() ? text.charAt(i) : 0);
            }
            x.sign(v);
        }
        x.end(79);
        x.people();
        return x;
    }

    private static void roomOfAllCalls() {
        VotedUnseen x = eight();
        long[] first = room(x);
        Due.is("objects of one town: " + first[0], first[0] <= MOST_OBJECTS, true);
        Due.is("fields and elements of one town: " + first[1], first[1] <= MOST_FIELDS, true);
        for (int i = 0; i < 10; i++) {
            askAll(x, i % 8);
        }
        long[] last = room(x);
        // A rule that was not read from THE TEXT still holds on to the usual one, so it may be less.
        Due.is("objects behind many calls: " + last[0], last[0] <= first[0], true);
        Due.is("fields and elements behind many calls: " + last[1], last[1] <= first[1], true);
    }

    private static void askAll(VotedUnseen x, int one) {
        int other = (one + 1) % 8;
        Due.rule(x, "l*3-t+(b>9)*(d-2)");
        Due.walk(x, "1234567");
        Due.year(x, "m9t01g011o019p011a7");
        Due.law(x, "t");
        x.sheet(0, 8, one, 3);
        x.months(3);
        x.tells(one, other);
        x.gives(one, other, 1);
        x.owes(one, other, 1);
        x.goes(one);
        x.keep(one % 3);
        x.noticed(one % 5, 0);
        x.years(one, 60);
        long sum = x.vote() + x.ahead(99) + x.when(one) + x.learns(one) + x.without(one) + x.swings(one) + x.holds()
            + x.duels() + x.hears(one) + x.ears() + x.stands(one, 255) + x.gossip() + x.later(one, other, 60)
            + x.net(one) + x.chain() + x.pairs() + x.power(one) + x.likely(one, 5) + x.spared(one, 8) + x.fits()
            + x.ask() + x.rests(one) + x.undo() + x.forget() + x.person(one, 4) + x.between(one, other, 1);
        Due.is("all calls answered", sum != Long.MIN_VALUE, true);
        x.again(one % 3);
    }

    /** How many objects and arrays can be reached, and how many fields and elements they have. */
    private static long[] room(Object from) {
        Set<Object> seen = Collections.newSetFromMap(new IdentityHashMap<>());
        Deque<Object> open = new ArrayDeque<>();
        open.add(from);
        long fields = 0;
        while (!open.isEmpty()) {
            Object one = open.remove();
            if (seen.add(one)) {
                fields += one.getClass().isArray() ? elements(one, open) : fields(one, open);
            }
        }
        return new long[] {seen.size(), fields};
    }

    private static int elements(Object array, Deque<Object> open) {
        int length = Array.getLength(array);
        if (!array.getClass().getComponentType().isPrimitive()) {
            for (int i = 0; i < length; i++) {
                open.add(Array.get(array, i));
            }
        }
        return length;
    }

    private static int fields(Object one, Deque<Object> open) {
        int own = 0;
        for (Field f : one.getClass().getDeclaredFields()) {
            if (Modifier.isStatic(f.getModifiers())) {
                continue;
            }
            own++;
            if (!f.getType().isPrimitive()) {
                f.setAccessible(true);
                try {
                    open.add(f.get(one));
                } catch (IllegalAccessException e) {
                    throw new IllegalStateException(e);
                }
            }
        }
        return own;
    }
}
