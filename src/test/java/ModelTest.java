import java.lang.reflect.InvocationTargetException;
import java.lang.reflect.Method;
import java.lang.reflect.Modifier;
import java.util.ArrayList;
import java.util.List;
import java.util.NoSuchElementException;
import java.util.Random;

/** Runs of drawn calls, answered by the program and by the model alike; nothing but what is promised is thrown. */
final class ModelTest {
    private static final int RUNS = Integer.getInteger("runs", 400);
    private static final int CALLS = 500;
    private static final int[] WILD = {-1, 8, 9, 100, 1000, -1000, Integer.MIN_VALUE, Integer.MAX_VALUE};

    private final Random random;
    private final VotedUnseen program = new VotedUnseen();
    private final Model model = new Model();
    private final List<String> told = new ArrayList<>();
    private final Method[] calls;

    private ModelTest(long seed) {
        random = new Random(seed);
        List<Method> face = new ArrayList<>();
        for (Method m : VotedUnseen.class.getDeclaredMethods()) {
            if (Modifier.isPublic(m.getModifiers())) {
                face.add(m);
            }
        }
        // Reflection promises no order; the runs must be the same each time.
        face.sort((a, b) -> a.getName().compareTo(b.getName()));
        calls = face.toArray(new Method[0]);
    }

    public static void main(String[] args) throws ReflectiveOperationException {
        long first = Long.getLong("first", 1);
        for (long seed = first; seed < first + RUNS; seed++) {
            if (!new ModelTest(seed).runsAlike()) {
                System.exit(1);
            }
        }
        System.out.println(RUNS + " runs alike");
    }

    private boolean runsAlike() throws ReflectiveOperationException {
        if (random.nextInt(10) > 0 && !textAlike(people(1 + random.nextInt(8)), "people")) {
            return false;
        }
        for (int i = 0; i < CALLS; i++) {
            int kind = random.nextInt(10);
            boolean alike;
            if (kind == 0) {
                String reader = drawReader();
                alike = textAlike(drawText(reader), reader);
            } else {
                alike = callAlike(calls[random.nextInt(calls.length)]);
            }
            if (!alike || !stateAlike()) {
                return false;
            }
        }
        return true;
    }

    private boolean callAlike(Method call) throws ReflectiveOperationException {
        int[] args = new int[call.getParameterCount()];
        for (int i = 0; i < args.length; i++) {
            args[i] = argument(call.getName(), i);
        }
        return alike(call.getName(), args);
    }

    private int argument(String call, int i) {
        if (call.equals("sign")) {
            return random.nextInt(3) == 0 ? random.nextInt() : 0x31323334;
        }
        if (random.nextInt(25) == 0) {
            return WILD[random.nextInt(WILD.length)];
        }
        if (random.nextInt(60) == 0) {
            return random.nextInt();
        }
        switch (call) {
            case "sheet":
                return i == 0 ? random.nextInt(4) : i == 1 ? random.nextInt(9) : random.nextInt(200) - 50;
            case "gives":
                return i == 2 ? 1 + random.nextInt(5) : random.nextInt(8);
            case "owes":
                return i == 2 ? random.nextInt(random.nextBoolean() ? 20 : 2000) - random.nextInt(1000)
                    : random.nextInt(8);
            case "months":
                return random.nextInt(random.nextInt(8) == 0 ? 63 : 4);
            case "ahead":
                return random.nextInt(102);
            case "later":
                return i == 2 ? random.nextInt(62) : random.nextInt(8);
            case "stands":
                return i == 1 ? random.nextInt(256) : random.nextInt(8);
            case "likely":
                return i == 1 ? random.nextInt(12) : random.nextInt(8);
            case "spared":
                return i == 1 ? random.nextInt(10) : random.nextInt(8);
            case "noticed":
                return i == 0 ? random.nextInt(5) : random.nextInt(random.nextInt(4) == 0 ? 1001 : 8);
            case "rests":
                return random.nextInt(22);
            case "years":
                return i == 0 ? random.nextInt() : random.nextInt(62);
            case "keep":
            case "again":
                return random.nextInt(4);
            case "count":
                return random.nextInt(13);
            default:
                return random.nextInt(8);
        }
    }

    private String drawReader() {
        String[] readers = {"people", "walk", "walk", "rule", "rule", "rule", "law", "law", "year", "year", "year"};
        return readers[random.nextInt(readers.length)];
    }

    /** Mostly a text that the reader can read, now and then with a fault in it, or another reader's. */
    private String drawText(String reader) {
        String text = wholeText(random.nextInt(8) == 0 ? drawReader() : reader);
        if (random.nextInt(3) == 0 && !text.isEmpty()) {
            int at = random.nextInt(text.length());
            text = text.substring(0, at) + drawSigns("09a;mtx(<)", random.nextInt(3)) + text.substring(at + 1);
        }
        return text.length() > 80 ? text.substring(0, 80) : text;
    }

    private String wholeText(String reader) {
        switch (reader) {
            case "people":
                return people(1 + random.nextInt(8));
            case "walk":
                return drawSigns("1234567", 1 + random.nextInt(9));
            case "year":
                return year();
            default:
                return wholeRule();
        }
    }

    private String wholeRule() {
        switch (random.nextInt(6)) {
            case 0:
                return drawSigns("ltsbdm0129()--+*/<>=", random.nextInt(45));
            case 1:
                return "((((" + expression(1) + "))))" + expression(2);
            case 2:
                return "l*" + random.nextInt(4) + "-t*" + random.nextInt(9) + "+s*" + random.nextInt(9) + "-d/7+b";
            default:
                return expression(3);
        }
    }

    private String people(int lines) {
        StringBuilder text = new StringBuilder();
        String digits = random.nextBoolean() ? "0123456789" : "0012";
        for (int i = 0; i < lines; i++) {
            text.append(i == 0 ? "" : ";").append(drawSigns(digits, 9));
        }
        return text.toString();
    }

    private String year() {
        StringBuilder text = new StringBuilder();
        int acts = random.nextInt(20);
        for (int i = 0; i < acts; i++) {
            switch (random.nextInt(6)) {
                case 0:
                    text.append('m').append(random.nextInt(10));
                    break;
                case 1:
                    text.append('t').append(drawSigns("01234567", 2));
                    break;
                case 2:
                    text.append('g').append(drawSigns("01234", 2)).append(1 + random.nextInt(2));
                    break;
                case 3:
                    text.append('o').append(drawSigns("01234567", 2)).append(1 + random.nextInt(9));
                    break;
                case 4:
                    text.append('p').append(drawSigns("01234", 2)).append(1);
                    break;
                default:
                    text.append('a').append(random.nextInt(5));
            }
        }
        return text.toString();
    }

    private String expression(int depth) {
        String[] joins = {"+", "-", "*", "/", "<", ">", "="};
        if (depth == 0 || random.nextInt(4) == 0) {
            return random.nextInt(3) == 0 ? "" + random.nextInt(1000) : drawSigns("ltsbdm", 1);
        }
        switch (random.nextInt(5)) {
            case 0:
                return "-" + expression(depth - 1);
            case 1:
                return "(" + expression(depth - 1) + ")";
            default:
                return expression(depth - 1) + joins[random.nextInt(joins.length)] + expression(depth - 1);
        }
    }

    private String drawSigns(String of, int n) {
        StringBuilder signs = new StringBuilder();
        for (int i = 0; i < n; i++) {
            signs.append(of.charAt(random.nextInt(of.length())));
        }
        return signs.toString();
    }

    private boolean textAlike(String text, String reader) throws ReflectiveOperationException {
        if (!alike("end", 0)) {
            return false;
        }
        for (int at = 0; at < text.length(); at += 4) {
            int v = 0;
            for (int i = at; i < at + 4; i++) {
                v = v << 8 | (i < text.length() ? text.charAt(i) : 0);
            }
            if (!alike("sign", v)) {
                return false;
            }
        }
        told.add("text " + text);
        return alike("end", text.length()) && alike(reader);
    }

    private boolean stateAlike() throws ReflectiveOperationException {
        for (int what = 0; what < 12; what++) {
            if (program.count(what) != model.count(what)) {
                return alike("count", what);
            }
        }
        for (int i = 0; i < program.count(10); i++) {
            if (program.row(i) != model.row(i)) {
                return alike("row", i);
            }
        }
        if (random.nextInt(20) > 0) {
            return true;
        }
        for (int one = 0; one < program.count(0); one++) {
            for (int other = 0; other < program.count(0); other++) {
                for (int what = 0; what < 3 && one != other; what++) {
                    if (program.between(one, other, what) != model.between(one, other, what)) {
                        return alike("between", one, other, what);
                    }
                }
            }
            for (int what = 0; what < 7; what++) {
                if (program.person(one, what) != model.person(one, what)) {
                    return alike("person", one, what);
                }
            }
        }
        return true;
    }

    private boolean alike(String name, int... args) throws ReflectiveOperationException {
        Class<?>[] types = new Class<?>[args.length];
        Object[] values = new Object[args.length];
        StringBuilder call = new StringBuilder(name);
        for (int i = 0; i < args.length; i++) {
            types[i] = int.class;
            values[i] = args[i];
            call.append(' ').append(args[i]);
        }
        String got = answer(VotedUnseen.class.getDeclaredMethod(name, types), program, values);
        String want = answer(Model.class.getDeclaredMethod(name, types), model, values);
        told.add(call + " = " + got);
        if (got.equals(want)) {
            return true;
        }
        for (String line : told) {
            System.out.println(line);
        }
        System.out.println("the model answers " + want);
        return false;
    }

    private static String answer(Method call, Object of, Object[] values) throws ReflectiveOperationException {
        try {
            return call.invoke(of, values).toString();
        } catch (InvocationTargetException e) {
            if (e.getCause() instanceof NoSuchElementException) {
                return "NoSuchElementException";
            }
            e.getCause().printStackTrace();
            return e.getCause().toString();
        }
    }
}
