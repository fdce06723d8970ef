import java.io.PrintWriter;
import java.io.StringWriter;
import java.util.ArrayList;
import java.util.HashMap;
import java.util.HashSet;
import java.util.List;
import java.util.Map;
import java.util.Set;
import java.util.TreeMap;
import java.util.TreeSet;
import java.util.regex.Matcher;
import java.util.regex.Pattern;
import java.util.spi.ToolProvider;

/** What of LANGUAGE.md can be seen in the compiled code, where no way of writing hides it. */
final class CodeTest {
    private static final int DEEPEST = 8;
    private static final Set<String> LIBRARY = Set.of("java/lang/Object.<init>",
        "java/util/NoSuchElementException.<init>", "java/lang/System.arraycopy", "java/lang/Math.max",
        "java/lang/Math.min", "java/lang/Integer.bitCount", "java/lang/Integer.compare",
        "java/lang/Integer.numberOfTrailingZeros");
    // checkcast, monitors and code made at run time have no place in a class that never casts, waits or captures.
    private static final Set<String> BARRED = Set.of("checkcast", "instanceof", "invokedynamic", "invokeinterface",
        "monitorenter", "monitorexit", "multianewarray", "frem", "drem", "jsr");
    private static final Pattern CLASS = Pattern.compile("^(?:[a-z]+ )*class (\\S+) .*\\{");
    private static final Pattern METHOD = Pattern.compile("^  (?:[a-z]+ )*?(?:(\\S+) )?([\\w$.]+)\\((.*)\\).*;");
    private static final Pattern STEP =
        Pattern.compile("^ +\\d+: (\\w+).*?(?:// (?:Interface)?(?:Method|class) (\\S+).*)?");

    private final Map<String, Set<String>> calls = new TreeMap<>();
    private final Set<String> face = new TreeSet<>();
    private String inside = "";
    private String method = "";
    private final Map<String, Integer> depths = new HashMap<>();

    public static void main(String[] args) {
        CodeTest test = new CodeTest();
        test.readClass("VotedUnseen");
        for (Class<?> nested : VotedUnseen.class.getDeclaredClasses()) {
            test.readClass(nested.getName());
        }
        Due.is("methods were found", test.calls.size() > 100, true);
        Due.is("calls of the face were found", test.face.size(), 45);
        test.depth();
        Due.finish();
    }

    private void readClass(String name) {
        ToolProvider javap = ToolProvider.findFirst("javap").orElseThrow();
        StringWriter out = new StringWriter();
        PrintWriter to = new PrintWriter(out);
        int code = javap.run(to, to, "-p", "-c", "-cp", System.getProperty("java.class.path"), name);
        Due.is("javap of " + name, code, 0);
        for (String line : out.toString().split("\n")) {
            readLine(line);
        }
    }

    private void readLine(String line) {
        Due.is(method + " catches", line.contains("Exception table"), false);
        Matcher step = STEP.matcher(line);
        if (step.matches()) {
            readStep(step.group(1), step.group(2));
            return;
        }
        Matcher head = CLASS.matcher(line);
        if (head.matches()) {
            inside = head.group(1);
            return;
        }
        Matcher member = METHOD.matcher(line);
        if (member.matches()) {
            String name = member.group(2).equals(inside) ? "<init>" : member.group(2);
            method = inside + "." + name;
            calls.putIfAbsent(method, new TreeSet<>());
            if (line.startsWith("  public ") && !name.equals("<init>")) {
                face.add(method);
            }
        } else if (line.equals("  static {};")) {
            method = inside + ".<clinit>";
            calls.putIfAbsent(method, new TreeSet<>());
        }
    }

    private void readStep(String step, String operand) {
        Due.is(method + " has " + step, BARRED.contains(step), false);
        boolean makes = step.equals("new") || step.equals("newarray") || step.equals("anewarray");
        boolean isException = "java/util/NoSuchElementException".equals(operand);
        Due.is(method + " makes " + operand, makes && !isException && !method.endsWith("init>"), false);
        if (step.equals("athrow")) {
            Due.is(method + " may throw", List.of("VotedUnseen.person", "VotedUnseen.between", "VotedUnseen.row")
                .contains(method), true);
        }
        if (step.startsWith("invoke") && operand != null) {
            String called = operand.substring(0, operand.indexOf(':')).replace("\"", "");
            String whole = called.contains(".") ? called : inside + "." + called;
            if (whole.startsWith("VotedUnseen")) {
                calls.get(method).add(whole);
            } else {
                Due.is(method + " calls " + whole, LIBRARY.contains(whole), true);
            }
        }
    }

    private void depth() {
        for (String call : calls.keySet()) {
            int depth = depthOf(call);
            Due.is(call + " goes " + depth + " deep", depth <= DEEPEST, true);
        }
        Set<String> recursive = new TreeSet<>();
        for (String call : calls.keySet()) {
            if (reach(call).contains(call)) {
                recursive.add(call);
            }
        }
        Set<String> reading = Set.of("VotedUnseen$Rule.readExpression", "VotedUnseen$Rule.readSum",
            "VotedUnseen$Rule.readProduct", "VotedUnseen$Rule.readNegated", "VotedUnseen$Rule.readThing",
            "VotedUnseen$Rule.readInside");
        Due.is("but for a rule's brackets nothing calls itself: " + recursive, recursive.equals(reading), true);
    }

    /** Methods that stand open at once, those that call one another in a ring as one. */
    private int depthOf(String from) {
        Integer known = depths.get(from);
        if (known != null) {
            return known;
        }
        int deepest = 0;
        for (String one : ringOf(from)) {
            for (String next : calls.getOrDefault(one, Set.of())) {
                deepest = ringOf(from).contains(next) ? deepest : Math.max(deepest, depthOf(next));
            }
        }
        depths.put(from, deepest + 1);
        return deepest + 1;
    }

    private Set<String> ringOf(String from) {
        Set<String> ring = new TreeSet<>(Set.of(from));
        for (String one : reach(from)) {
            if (reach(one).contains(from)) {
                ring.add(one);
            }
        }
        return ring;
    }

    private Set<String> reach(String from) {
        Set<String> seen = new HashSet<>();
        List<String> open = new ArrayList<>(calls.getOrDefault(from, Set.of()));
        while (!open.isEmpty()) {
            String next = open.remove(open.size() - 1);
            if (seen.add(next)) {
                open.addAll(calls.getOrDefault(next, Set.of()));
            }
        }
        return seen;
    }
}
