import java.io.IOException;
import java.lang.reflect.Constructor;
import java.lang.reflect.Field;
import java.lang.reflect.Method;
import java.lang.reflect.Modifier;
import java.nio.file.Files;
import java.nio.file.Path;
import java.util.ArrayList;
import java.util.List;
import java.util.Set;
import java.util.TreeSet;

/** The face of the class is the document's, and what of LANGUAGE.md can be seen by a look at the code holds. */
final class FaceTest {
    private static final String[] FACE = {
        "int sign(int)", "boolean end(int)", "int people()", "int walk()", "int rule()",
        "int person(int,int) throws NoSuchElementException",
        "int between(int,int,int) throws NoSuchElementException", "int sheet(int,int,int,int)", "int months(int)",
        "int tells(int,int)", "int gives(int,int,int)", "int owes(int,int,int)", "int goes(int)", "int year()",
        "int undo()", "int vote()", "int ahead(int)", "int when(int)", "int learns(int)", "int without(int)",
        "int swings(int)", "int holds()", "int duels()", "int hears(int)", "int ears()", "int stands(int,int)",
        "int gossip()", "int later(int,int,int)", "int net(int)", "int chain()", "int pairs()", "int power(int)",
        "int likely(int,int)", "int spared(int,int)", "int noticed(int,int)", "int forget()", "int fits()",
        "int ask()", "int law()", "int rests(int)", "int years(int,int)", "boolean keep(int)", "boolean again(int)",
        "int count(int)", "long row(int) throws NoSuchElementException"};
    private static final String[] BARRED = {"->", "::", "catch", "finally", "synchronized", "assert ", "Exact(",
        "instanceof", "Object", "System.out", "System.nano", "System.current", "Random", "protected", "while (true)",
        "for (;;)", "hashCode", "toString", "equals("};

    public static void main(String[] args) throws IOException {
        face();
        members();
        source();
        Due.finish();
    }

    private static void face() {
        Set<String> want = new TreeSet<>(List.of(FACE));
        Set<String> got = new TreeSet<>();
        for (Method m : VotedUnseen.class.getDeclaredMethods()) {
            if (!Modifier.isPrivate(m.getModifiers())) {
                Due.is(m + " is public", Modifier.isPublic(m.getModifiers()), true);
                Due.is(m + " is of the object", Modifier.isStatic(m.getModifiers()), false);
                got.add(describe(m));
            }
        }
        Set<String> missing = new TreeSet<>(want);
        missing.removeAll(got);
        got.removeAll(want);
        Due.is("missing of the face: " + missing, missing.size(), 0);
        Due.is("not of the face: " + got, got.size(), 0);
        Due.is("public and final", VotedUnseen.class.getModifiers(), Modifier.PUBLIC | Modifier.FINAL);
        Constructor<?>[] makers = VotedUnseen.class.getDeclaredConstructors();
        Due.is("constructors", makers.length, 1);
        Due.is("public, of nothing", Modifier.isPublic(makers[0].getModifiers()) && makers[0].getParameterCount() == 0,
            true);
        Due.is("NONE", VotedUnseen.NONE, -1);
    }

    private static String describe(Method m) {
        StringBuilder text = new StringBuilder(m.getReturnType().getSimpleName()).append(' ').append(m.getName());
        List<String> types = new ArrayList<>();
        for (Class<?> type : m.getParameterTypes()) {
            types.add(type.getSimpleName());
        }
        text.append('(').append(String.join(",", types)).append(')');
        for (Class<?> type : m.getExceptionTypes()) {
            text.append(" throws ").append(type.getSimpleName());
        }
        return text.toString();
    }

    private static void members() {
        Set<String> names = new TreeSet<>();
        for (String of : FACE) {
            names.add(of.substring(of.indexOf(' ') + 1, of.indexOf('(')));
        }
        List<Class<?>> classes = new ArrayList<>(List.of(VotedUnseen.class.getDeclaredClasses()));
        for (Class<?> one : classes) {
            Due.is(one + " is static", Modifier.isStatic(one.getModifiers()), true);
            Due.is(one + " is not public", Modifier.isPublic(one.getModifiers()), false);
        }
        classes.add(VotedUnseen.class);
        Due.is("twelve classes", classes.size() <= 12, true);
        for (Class<?> one : classes) {
            fields(one);
            for (Method m : one.getDeclaredMethods()) {
                Due.is(m + " has at most seven parameters", m.getParameterCount() <= 7, true);
                boolean isFace = Modifier.isPublic(m.getModifiers());
                Due.is(m + " has a name of its own", !isFace && names.contains(m.getName()), false);
            }
        }
    }

    private static void fields(Class<?> of) {
        int own = 0;
        for (Field f : of.getDeclaredFields()) {
            boolean isStatic = Modifier.isStatic(f.getModifiers());
            own += isStatic ? 0 : 1;
            Due.is(f + " is final if static", !isStatic || Modifier.isFinal(f.getModifiers()), true);
            if (of == VotedUnseen.class) {
                Due.is(f + " is private, but NONE", Modifier.isPrivate(f.getModifiers()), !f.getName().equals("NONE"));
            }
        }
        Due.is(of + " has twenty fields", own <= 20, true);
    }

    private static void source() throws IOException {
        List<String> lines = Files.readAllLines(Path.of("src/main/java/VotedUnseen.java"));
        for (int i = 0; i < lines.size(); i++) {
            String line = lines.get(i);
            for (String word : BARRED) {
                Due.is("line " + (i + 1) + " has " + word, line.contains(word), false);
            }
            boolean imports = line.startsWith("import ");
            Due.is("line " + (i + 1) + " imports", imports && !line.endsWith("java.util.NoSuchElementException;"), false);
            Due.is("line " + (i + 1) + " makes an object in a call", makesInCall(line), false);
        }
        methodLengths(lines);
    }

    /** Rows are made once, with the object: no call makes anything but what it throws. */
    private static boolean makesInCall(String line) {
        boolean makes = line.contains("new ") && !line.contains("throw new ");
        boolean once = line.contains("final ") || line.contains("Rule = new Rule()")
            || line.contains("rule = new Rule()") || line.trim().matches("(kept|towns)\\[i\\] = new Town\\(\\);");
        return makes && !once;
    }

    /** A method begins with its head, indented by 4 or 8, and ends with a bracket that is indented alike. */
    private static void methodLengths(List<String> lines) {
        for (int i = 0; i < lines.size(); i++) {
            String head = lines.get(i);
            if (!head.matches("( {4}| {8})[a-z]+ .*\\) (throws \\w+ )?\\{") || head.matches(" +(if|for|switch) .*")) {
                continue;
            }
            String end = " ".repeat(head.indexOf(head.trim())) + "}";
            int length = lines.subList(i, lines.size()).indexOf(end) + 1;
            Due.is(head + " has " + length + " lines", length > 0 && length <= 60, true);
        }
    }
}
