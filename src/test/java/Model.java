import java.math.BigInteger;
import java.util.ArrayDeque;
import java.util.ArrayList;
import java.util.Arrays;
import java.util.Deque;
import java.util.List;
import java.util.NoSuchElementException;

/** The document told once more, by other ways than the program's: by trying all there is, and by Java's library. */
final class Model {
    private static final String USUAL = "l*2-t+s*3";

    static final class Person implements Cloneable {
        int[] liking = new int[8];
        int bread;
        int times;
        boolean away;
        boolean[] knows = new boolean[8];
        int[] debt = new int[8];

        Person copy() {
            Person p = new Person();
            p.liking = liking.clone();
            p.bread = bread;
            p.times = times;
            p.away = away;
            p.knows = knows.clone();
            p.debt = debt.clone();
            return p;
        }

        int secrets() {
            int bits = 0;
            for (int i = 0; i < 8; i++) {
                bits += knows[i] ? 1 << i : 0;
            }
            return bits;
        }
    }

    static final class State {
        List<Person> all = new ArrayList<>();
        int month;
        int unseen = -1;

        State copy() {
            State s = new State();
            for (Person p : all) {
                s.all.add(p.copy());
            }
            s.month = month;
            s.unseen = unseen;
            return s;
        }
    }

    private State now = new State();
    private String text = "";
    private String walk = "1";
    private String rule = USUAL;
    private List<Long> row = new ArrayList<>();
    private final Deque<State> past = new ArrayDeque<>();
    private final State[] kept = new State[3];
    private final List<int[]> noticed = new ArrayList<>();

    // ---- texts

    int sign(int v) {
        if (text.length() > 76) {
            return -1;
        }
        for (int i = 3; i >= 0; i--) {
            text += (char) (v >> 8 * i & 255);
        }
        return text.length();
    }

    boolean end(int n) {
        if (n < 0 || n > text.length()) {
            return false;
        }
        text = text.substring(0, n);
        return true;
    }

    private String take() {
        String t = text;
        text = "";
        return t;
    }

    int people() {
        String t = take();
        if (t.isEmpty()) {
            return 0;
        }
        int room = 8 - now.all.size();
        // The longest text that fits the room, of whose pattern the text must be a whole number of lines.
        StringBuilder pattern = new StringBuilder();
        for (int i = 0; i < room; i++) {
            pattern.append("ddddddddd;");
        }
        for (int p = 0; p < t.length(); p++) {
            char c = t.charAt(p);
            if (p >= 79 || p >= pattern.length()) {
                return -1 - p;
            }
            boolean fits = pattern.charAt(p) == ';' ? c == ';' : c >= '0' && c <= '9';
            if (!fits) {
                return -1 - p;
            }
        }
        if (t.length() % 10 != 9) {
            return -1 - t.length();
        }
        String[] lines = t.split(";");
        for (String line : lines) {
            Person p = new Person();
            for (int i = 0; i < 8; i++) {
                p.liking[i] = line.charAt(i) - '0';
            }
            p.bread = line.charAt(8) - '0';
            p.knows[now.all.size()] = true;
            now.all.add(p);
        }
        past.clear();
        Arrays.fill(kept, null);
        return lines.length;
    }

    int walk() {
        String t = take();
        for (int p = 0; p < t.length(); p++) {
            if (p == 8 || "1234567".indexOf(t.charAt(p)) < 0) {
                return -1 - p;
            }
        }
        if (t.isEmpty()) {
            return -1;
        }
        walk = t;
        return t.length();
    }

    int rule() {
        String t = take();
        int wrong = wrongInRule(t);
        if (wrong >= 0) {
            return -1 - wrong;
        }
        rule = t.isEmpty() ? USUAL : t;
        return 0;
    }

    /** By an automaton over signs, with a stack of whether < > = was used in each pair of brackets. */
    private static int wrongInRule(String t) {
        if (t.isEmpty()) {
            return -1;
        }
        Deque<Boolean> compared = new ArrayDeque<>();
        compared.push(false);
        int digits = 0;
        boolean wantsThing = true;
        for (int p = 0; p < t.length(); p++) {
            char c = t.charAt(p);
            if (p == 40) {
                return 40;
            }
            if (wantsThing) {
                if (c == '-') {
                    continue;
                }
                if (c == '(' && compared.size() < 5) {
                    compared.push(false);
                } else if ("ltsbdm".indexOf(c) >= 0) {
                    wantsThing = false;
                    digits = 3;
                } else if (Character.isDigit(c) && c < 128) {
                    wantsThing = false;
                    digits = 1;
                } else {
                    return p;
                }
                continue;
            }
            if (c >= '0' && c <= '9' && digits < 3) {
                digits++;
            } else if ("+-*/".indexOf(c) >= 0) {
                wantsThing = true;
            } else if ("<>=".indexOf(c) >= 0 && !compared.peek()) {
                compared.pop();
                compared.push(true);
                wantsThing = true;
            } else if (c == ')' && compared.size() > 1) {
                compared.pop();
                digits = 3;
            } else {
                return p;
            }
        }
        return wantsThing || compared.size() > 1 ? t.length() : -1;
    }

    /** By cutting the text at the operator that binds least, the last of its kind. */
    private static int worth(String t, State s, int voter, int other) {
        int cut = lastOf(t, "<>=");
        if (cut < 0) {
            cut = lastOf(t, "+-");
        }
        if (cut < 0) {
            cut = lastOf(t, "*/");
        }
        if (cut >= 0) {
            int a = worth(t.substring(0, cut), s, voter, other);
            int b = worth(t.substring(cut + 1), s, voter, other);
            switch (t.charAt(cut)) {
                case '<': return a < b ? 1 : 0;
                case '>': return a > b ? 1 : 0;
                case '=': return a == b ? 1 : 0;
                case '+': return a + b;
                case '-': return a - b;
                case '*': return a * b;
                default: return b == 0 ? 0 : (int) ((long) a / b);
            }
        }
        if (t.charAt(0) == '-') {
            return -worth(t.substring(1), s, voter, other);
        }
        if (t.charAt(0) == '(') {
            return worth(t.substring(1, t.length() - 1), s, voter, other);
        }
        Person v = s.all.get(voter);
        Person o = s.all.get(other);
        switch (t) {
            case "l": return v.liking[other];
            case "t": return o.times;
            case "s": return o.knows[voter] ? 1 : 0;
            case "b": return o.bread;
            case "d": return v.debt[other];
            case "m": return s.month % 12;
            default: return Integer.parseInt(t);
        }
    }

    private static int lastOf(String t, String operators) {
        int depth = 0;
        for (int p = t.length() - 1; p > 0; p--) {
            char c = t.charAt(p);
            depth += c == ')' ? 1 : c == '(' ? -1 : 0;
            boolean behindThing = "+-*/<>=(".indexOf(t.charAt(p - 1)) < 0;
            if (depth == 0 && behindThing && operators.indexOf(c) >= 0) {
                return p;
            }
        }
        return -1;
    }

    // ---- votes and months

    private static List<Integer> candidates(State s) {
        List<Integer> can = new ArrayList<>();
        for (int i = 0; i < s.all.size(); i++) {
            if (!s.all.get(i).away && i != s.unseen) {
                can.add(i);
            }
        }
        return can;
    }

    private static int[] choices(State s, String byRule) {
        int[] choices = new int[s.all.size()];
        for (int v = 0; v < choices.length; v++) {
            choices[v] = -1;
            if (s.all.get(v).away) {
                continue;
            }
            for (int o : candidates(s)) {
                if (o != v && (choices[v] < 0 || worth(byRule, s, v, o) > worth(byRule, s, v, choices[v]))) {
                    choices[v] = o;
                }
            }
        }
        return choices;
    }

    private static int[] votes(int[] choices) {
        int[] votes = new int[choices.length];
        for (int c : choices) {
            if (c >= 0) {
                votes[c]++;
            }
        }
        return votes;
    }

    private static int chosen(int[] choices) {
        int[] votes = votes(choices);
        int most = Arrays.stream(votes).max().orElse(0);
        for (int i = 0; i < votes.length; i++) {
            if (most > 0 && votes[i] == most) {
                return i;
            }
        }
        return -2;
    }

    private void month(State s) {
        int c = chosen(choices(s, rule));
        s.unseen = c < 0 ? -1 : c;
        if (c >= 0) {
            Person u = s.all.get(c);
            u.times = Math.min(999, u.times + 1);
            for (char step : walk.toCharArray()) {
                int to = (c + step - '0') % s.all.size();
                Person host = s.all.get(to);
                if (to == c || host.away) {
                    continue;
                }
                for (int i = 0; i < 8; i++) {
                    u.knows[i] |= host.knows[i];
                }
                if (host.bread > 0 && u.bread < 99) {
                    host.bread--;
                    u.bread++;
                }
            }
        }
        for (int i = 0; i < s.all.size(); i++) {
            Person p = s.all.get(i);
            if (!p.away && i != s.unseen) {
                p.bread = Math.min(99, p.bread + 1);
            }
            for (int j = 0; j < 8; j++) {
                if (p.debt[j] > 0 && j != s.unseen) {
                    p.debt[j] = Math.min(999, p.debt[j] + 1);
                }
            }
        }
        s.month++;
    }

    private boolean is(int person) {
        return person >= 0 && person < now.all.size();
    }

    private boolean two(int one, int other) {
        return is(one) && is(other) && one != other;
    }

    private void tell(long... numbers) {
        row = new ArrayList<>();
        for (long n : numbers) {
            row.add(n);
        }
    }

    private void tellAll(int[] numbers) {
        tell(Arrays.stream(numbers).asLongStream().toArray());
    }

    private static int bread(State s) {
        return s.all.stream().mapToInt(p -> p.bread).sum();
    }

    private static int known(State s) {
        return s.all.stream().mapToInt(p -> Integer.bitCount(p.secrets())).sum();
    }

    private static int nobody(int unseen) {
        return unseen < 0 ? -2 : unseen;
    }

    int person(int i, int what) {
        if (!is(i) || what < 0 || what > 6) {
            throw new NoSuchElementException();
        }
        Person p = now.all.get(i);
        int to = now.all.stream().mapToInt(q -> q.debt[i]).sum();
        int[] numbers = {p.bread, p.secrets(), p.times, p.away ? 1 : 0, choices(now, rule)[i],
            Arrays.stream(p.debt).sum(), to};
        return numbers[what];
    }

    int between(int one, int other, int what) {
        if (!two(one, other) || what < 0 || what > 2) {
            throw new NoSuchElementException();
        }
        Person p = now.all.get(one);
        return what == 0 ? p.liking[other] : what == 1 ? worth(rule, now, one, other) : p.debt[other];
    }

    int sheet(int kind, int n, int f, int step) {
        if (kind < 0 || kind > 3 || n > 8) {
            return -1;
        }
        if (kind < 3 && n < 0) {
            return -2;
        }
        int entry = f;
        for (int i = 0; i < now.all.size(); i++) {
            int told = kind == 0 ? (byte) entry : kind == 1 ? (short) entry : entry;
            now.all.get(i).bread = kind == 3 || i >= n ? 0 : told < 0 ? 0 : told > 99 ? 99 : told;
            entry += step;
        }
        return kind == 3 ? -3 : bread(now);
    }

    // ---- acts

    private void remember(State before) {
        past.push(before);
        if (past.size() > 15) {
            past.removeLast();
        }
    }

    int months(int n) {
        if (n < 0 || n > 60) {
            return -1;
        }
        remember(now.copy());
        int[] times = new int[now.all.size()];
        for (int i = 0; i < n; i++) {
            month(now);
            if (now.unseen >= 0) {
                times[now.unseen]++;
            }
        }
        tellAll(times);
        return nobody(now.unseen);
    }

    private int tells(State s, int one, int other) {
        if (!two(one, other)) {
            return -1;
        }
        if (s.all.get(other).knows[one]) {
            return -2;
        }
        s.all.get(other).knows[one] = true;
        return s.all.get(other).secrets();
    }

    private int gives(State s, int one, int other, int n) {
        if (!two(one, other) || n < 1 || n > 99) {
            return -1;
        }
        Person from = s.all.get(one);
        Person to = s.all.get(other);
        if (from.bread < n) {
            return -2;
        }
        if (to.bread > 99 - n) {
            return -3;
        }
        from.bread -= n;
        to.bread += n;
        return to.bread;
    }

    private int owes(State s, int one, int other, int n) {
        if (!two(one, other) || n == 0 || n < -999 || n > 999) {
            return -1;
        }
        if (s.unseen == other) {
            return -4;
        }
        int debt = s.all.get(one).debt[other] + n;
        if (debt < 0 || debt > 999) {
            return debt < 0 ? -2 : -3;
        }
        s.all.get(one).debt[other] = debt;
        return debt;
    }

    private int goes(State s, int i) {
        if (!is(i)) {
            return -1;
        }
        if (s.unseen == i) {
            return -2;
        }
        s.all.get(i).away = !s.all.get(i).away;
        return (int) s.all.stream().filter(p -> !p.away).count();
    }

    private int done(State before, int answer) {
        if (answer >= 0) {
            remember(before);
        }
        return answer;
    }

    int tells(int one, int other) {
        return done(now.copy(), tells(now, one, other));
    }

    int gives(int one, int other, int n) {
        return done(now.copy(), gives(now, one, other, n));
    }

    int owes(int one, int other, int n) {
        return done(now.copy(), owes(now, one, other, n));
    }

    int goes(int i) {
        return done(now.copy(), goes(now, i));
    }

    int year() {
        String t = take();
        List<String> acts = new ArrayList<>();
        String rest = t.length() > 60 ? t.substring(0, 60) : t;
        int at = 0;
        while (!rest.isEmpty()) {
            String pattern = rest.charAt(0) == 'm' || rest.charAt(0) == 'a' ? "d" : rest.charAt(0) == 't' ? "dd"
                : "gop".indexOf(rest.charAt(0)) >= 0 ? "ddD" : "";
            if (pattern.isEmpty()) {
                return -1 - at;
            }
            for (int i = 0; i < pattern.length(); i++) {
                if (i + 1 == rest.length()) {
                    return -1 - (at + i + 1);
                }
                char c = rest.charAt(i + 1);
                if (c > '9' || c < (pattern.charAt(i) == 'D' ? '1' : '0')) {
                    return -1 - (at + i + 1);
                }
            }
            acts.add(rest.substring(0, pattern.length() + 1));
            at += pattern.length() + 1;
            rest = rest.substring(pattern.length() + 1);
        }
        if (t.length() > 60) {
            return -61;
        }
        State before = now.copy();
        int did = 0;
        for (String act : acts) {
            if (act(act) < 0) {
                break;
            }
            did++;
        }
        if (did > 0) {
            remember(before);
        }
        tell(did < acts.size() ? 1 : 0, now.month);
        return did;
    }

    private int act(String act) {
        int[] d = act.substring(1).chars().map(c -> c - '0').toArray();
        switch (act.charAt(0)) {
            case 'm':
                for (int i = 0; i < d[0]; i++) {
                    month(now);
                }
                return 0;
            case 't': return tells(now, d[0], d[1]);
            case 'g': return gives(now, d[0], d[1], d[2]);
            case 'o': return owes(now, d[0], d[1], d[2]);
            case 'p': return owes(now, d[0], d[1], -d[2]);
            default: return goes(now, d[0]);
        }
    }

    int undo() {
        if (past.isEmpty()) {
            return -1;
        }
        now = past.pop();
        return past.size();
    }

    // ---- questions about votes

    int vote() {
        int[] c = choices(now, rule);
        tellAll(votes(c));
        return chosen(c);
    }

    int ahead(int n) {
        if (n < 0 || n > 99) {
            return -1;
        }
        State s = now.copy();
        for (int i = 0; i < n; i++) {
            month(s);
        }
        tell(bread(s), known(s));
        return nobody(s.unseen);
    }

    int when(int i) {
        if (!is(i)) {
            return -1;
        }
        State s = now.copy();
        for (int m = 1; m < 100; m++) {
            month(s);
            if (s.unseen == i) {
                tell(Integer.bitCount(s.all.get(i).secrets()));
                return m;
            }
        }
        return -2;
    }

    int learns(int i) {
        if (!is(i)) {
            return -1;
        }
        State s = now.copy();
        for (int m = 0; m < 100; m++) {
            if (Integer.bitCount(s.all.get(i).secrets()) == s.all.size()) {
                tell(s.all.get(i).times);
                return m;
            }
            month(s);
        }
        return -2;
    }

    int without(int i) {
        if (!is(i)) {
            return -1;
        }
        State s = now.copy();
        s.all.get(i).away = true;
        int[] c = choices(s, rule);
        tellAll(votes(c));
        return chosen(c);
    }

    /** All sets of numbers 0 .. n - 1, the fewest first, then by their bits. */
    private static List<Integer> setsByFewest(int n) {
        List<Integer> sets = new ArrayList<>();
        for (int s = 0; s < 1 << n; s++) {
            sets.add(s);
        }
        sets.sort((a, b) -> Integer.bitCount(a) != Integer.bitCount(b)
            ? Integer.bitCount(a) - Integer.bitCount(b) : a - b);
        return sets;
    }

    private static int[] turned(int[] choices, int set, int to) {
        int[] c = choices.clone();
        for (int i = 0; i < c.length; i++) {
            if ((set & 1 << i) != 0) {
                c[i] = to;
            }
        }
        return c;
    }

    private static boolean allVote(int[] choices, int set) {
        for (int i = 0; i < choices.length; i++) {
            if ((set & 1 << i) != 0 && choices[i] < 0) {
                return false;
            }
        }
        return true;
    }

    int swings(int i) {
        if (!is(i)) {
            return -1;
        }
        int[] c = choices(now, rule);
        for (int set : setsByFewest(c.length)) {
            boolean may = (set & 1 << i) == 0 && allVote(c, set) && candidates(now).contains(i);
            if (may && chosen(turned(c, set, i)) == i) {
                tell(set);
                return Integer.bitCount(set);
            }
        }
        return -2;
    }

    int holds() {
        int[] c = choices(now, rule);
        for (int set : setsByFewest(c.length)) {
            if (!allVote(c, set)) {
                continue;
            }
            List<Integer> others = candidates(now);
            others.removeIf(o -> (set & 1 << o) != 0);
            if (!others.isEmpty() && others.stream().allMatch(o -> chosen(turned(c, set, o)) == o)) {
                tell(set);
                return Integer.bitCount(set);
            }
        }
        return -2;
    }

    int duels() {
        int[] wins = new int[now.all.size()];
        List<Integer> can = candidates(now);
        for (int a : can) {
            for (int b : can) {
                int forA = 0;
                int forB = 0;
                for (int v = 0; v < wins.length; v++) {
                    if (v == a || v == b || a == b || now.all.get(v).away) {
                        continue;
                    }
                    int ga = worth(rule, now, v, a);
                    int gb = worth(rule, now, v, b);
                    forA += ga > gb ? 1 : 0;
                    forB += gb > ga ? 1 : 0;
                }
                wins[a] += forA > forB ? 1 : 0;
            }
        }
        tellAll(wins);
        for (int a : can) {
            if (can.size() > 1 && wins[a] == can.size() - 1) {
                return a;
            }
        }
        return -2;
    }

    // ---- ears

    private int heard(int i) {
        int bits = now.all.get(i).secrets();
        for (char step : walk.toCharArray()) {
            Person host = now.all.get((i + step - '0') % now.all.size());
            bits |= host.away ? 0 : host.secrets();
        }
        return bits;
    }

    private int more(int i) {
        return Integer.bitCount(heard(i) & ~now.all.get(i).secrets());
    }

    int hears(int i) {
        if (!is(i)) {
            return -1;
        }
        tell(more(i));
        return heard(i);
    }

    int ears() {
        if (now.all.isEmpty()) {
            return -2;
        }
        for (int most = 8; most >= 0; most--) {
            for (int i = 0; i < now.all.size(); i++) {
                if (more(i) == most) {
                    tell(most);
                    return i;
                }
            }
        }
        throw new IllegalStateException();
    }

    int stands(int i, int secrets) {
        int n = now.all.size();
        if (!is(i) || secrets < 0 || secrets >= 1 << n) {
            return -1;
        }
        for (int set : setsByFewest(n)) {
            int known = now.all.get(i).secrets();
            boolean may = true;
            for (int o = 0; o < n; o++) {
                if ((set & 1 << o) != 0) {
                    may &= o != i && !now.all.get(o).away;
                    known |= now.all.get(o).secrets();
                }
            }
            if (may && (known & secrets) == secrets) {
                tell(set);
                return Integer.bitCount(set);
            }
        }
        return -2;
    }

    int gossip() {
        int best = -2;
        int most = 0;
        for (int s = 0; s < now.all.size(); s++) {
            int who = 0;
            for (int i = 0; i < now.all.size(); i++) {
                who += now.all.get(i).knows[s] ? 1 << i : 0;
            }
            if (Integer.bitCount(who) > most) {
                most = Integer.bitCount(who);
                best = s;
                tell(most, who);
            }
        }
        return best;
    }

    // ---- debts

    int later(int one, int other, int n) {
        if (!two(one, other) || n < 0 || n > 60) {
            return -1;
        }
        State s = now.copy();
        int first = s.all.get(one).debt[other];
        for (int i = 0; i < n; i++) {
            month(s);
        }
        int last = s.all.get(one).debt[other];
        tell(n - (last - first));
        return last;
    }

    int net(int i) {
        if (!is(i)) {
            return -1;
        }
        int owed = now.all.stream().mapToInt(p -> p.debt[i]).sum();
        int owing = Arrays.stream(now.all.get(i).debt).sum();
        tell(owed, owing);
        return 10000 + owed - owing;
    }

    int chain() {
        List<Integer> best = new ArrayList<>();
        for (int i = 0; i < now.all.size(); i++) {
            best = longer(best, goOn(new ArrayList<>(List.of(i))));
        }
        tell(best.stream().mapToLong(i -> i).toArray());
        return best.size();
    }

    private static List<Integer> longer(List<Integer> first, List<Integer> second) {
        return second.size() > first.size() ? second : first;
    }

    private List<Integer> goOn(List<Integer> path) {
        List<Integer> best = new ArrayList<>(path);
        Person last = now.all.get(path.get(path.size() - 1));
        for (int i = 0; i < now.all.size(); i++) {
            if (last.debt[i] > 0 && !path.contains(i)) {
                path.add(i);
                best = longer(best, goOn(path));
                path.remove(path.size() - 1);
            }
        }
        return best;
    }

    // ---- pairs, weights

    private int bestLiking;
    private List<Integer> bestPairs;

    int pairs() {
        bestLiking = 0;
        bestPairs = new ArrayList<>();
        match(0, 0, new ArrayList<>());
        tell(bestPairs.stream().mapToLong(i -> i).toArray());
        return bestLiking;
    }

    private void match(int one, int liking, List<Integer> pairs) {
        if (one == now.all.size()) {
            if (liking > bestLiking || liking == bestLiking && isLess(pairs, bestPairs)) {
                bestLiking = liking;
                bestPairs = new ArrayList<>(pairs);
            }
            return;
        }
        match(one + 1, liking, pairs);
        for (int other = one + 1; other < now.all.size(); other++) {
            Person a = now.all.get(one);
            Person b = now.all.get(other);
            if (!a.away && !b.away && !pairs.contains(one) && !pairs.contains(other)) {
                pairs.add(one);
                pairs.add(other);
                match(one + 1, liking + a.liking[other] + b.liking[one], pairs);
                pairs.remove(pairs.size() - 1);
                pairs.remove(pairs.size() - 1);
            }
        }
    }

    private static boolean isLess(List<Integer> a, List<Integer> b) {
        if (a.size() != b.size()) {
            return a.size() < b.size();
        }
        for (int i = 0; i < a.size(); i++) {
            if (!a.get(i).equals(b.get(i))) {
                return a.get(i) < b.get(i);
            }
        }
        return false;
    }

    private int turns(int i) {
        int found = 0;
        for (int set = 0; set < 1 << now.all.size(); set++) {
            double weight = 0;
            for (int o = 0; o < now.all.size(); o++) {
                weight += (set & 1 << o) != 0 ? now.all.get(o).bread : 0;
            }
            double half = bread(now) / 2.0;
            found += (set & 1 << i) == 0 && weight <= half && weight + now.all.get(i).bread > half ? 1 : 0;
        }
        return found;
    }

    int power(int i) {
        if (!is(i)) {
            return -1;
        }
        int sum = 0;
        for (int o = 0; o < now.all.size(); o++) {
            sum += turns(o);
        }
        tellFraction(BigInteger.valueOf(turns(i)), BigInteger.valueOf(sum));
        return turns(i);
    }

    private void tellFraction(BigInteger upper, BigInteger lower) {
        if (upper.signum() == 0) {
            tell(0, 1);
            return;
        }
        BigInteger g = upper.gcd(lower);
        tell(upper.divide(g).longValueExact(), lower.divide(g).longValueExact());
    }

    // ---- chances

    int likely(int i, int p) {
        if (!is(i) || p < 0 || p > 10) {
            return -1;
        }
        int[] c = choices(now, rule);
        List<Integer> free = new ArrayList<>();
        int voters = 0;
        for (int v = 0; v < c.length; v++) {
            voters += c[v] >= 0 ? 1 : 0;
            if (c[v] >= 0 && v != i) {
                free.add(v);
            }
        }
        BigInteger good = BigInteger.ZERO;
        for (int set = 0; set < 1 << free.size(); set++) {
            int votes = Integer.bitCount(set);
            if (votes * 2 > voters) {
                good = good.add(BigInteger.valueOf(p).pow(votes)
                    .multiply(BigInteger.valueOf(10 - p).pow(free.size() - votes)));
            }
        }
        tellFraction(good, BigInteger.TEN.pow(free.size()));
        return 0;
    }

    int spared(int i, int n) {
        if (!is(i) || n < 1 || n > 8) {
            return -1;
        }
        if (now.all.get(i).away) {
            tell(1, 1);
            return 0;
        }
        List<Integer> here = new ArrayList<>();
        for (int o = 0; o < now.all.size(); o++) {
            if (!now.all.get(o).away) {
                here.add(o);
            }
        }
        if (here.size() < 2) {
            return -2;
        }
        // By each who was drawn last, how many of all rows of draws without the one end so; all weigh alike.
        long[] ends = new long[9];
        ends[now.unseen < 0 ? 8 : now.unseen] = 1;
        BigInteger all = BigInteger.ONE;
        for (int m = 0; m < n; m++) {
            long[] next = new long[9];
            for (int last = 0; last < 9; last++) {
                for (int o : here) {
                    if (o != last && o != i) {
                        next[o] += ends[last];
                    }
                }
            }
            boolean any = m == 0 && now.unseen < 0;
            all = all.multiply(BigInteger.valueOf(any ? here.size() : here.size() - 1));
            ends = next;
        }
        tellFraction(BigInteger.valueOf(Arrays.stream(ends).sum()), all);
        return 0;
    }

    // ---- plates

    int noticed(int what, int v) {
        int[] most = {7, 99, 999, 7, 1};
        if (what < 0 || what > 4 || v < 0 || v > most[what] || noticed.size() == 12) {
            return -1;
        }
        noticed.add(new int[] {what, v});
        return noticed.size();
    }

    int forget() {
        int n = noticed.size();
        noticed.clear();
        return n;
    }

    private int fitting() {
        int bits = 0;
        int[] c = choices(now, rule);
        for (int i = 0; i < c.length; i++) {
            Person p = now.all.get(i);
            int vote = c[i];
            boolean all = noticed.stream().allMatch(x -> x[0] == 0 ? p.knows[x[1]] : x[0] == 1 ? p.bread >= x[1]
                : x[0] == 2 ? p.times >= x[1] : x[0] == 3 ? vote == x[1] : p.away == (x[1] == 1));
            bits += all ? 1 << i : 0;
        }
        return bits;
    }

    int fits() {
        tell(Integer.bitCount(fitting()));
        return fitting();
    }

    int ask() {
        int fitting = fitting();
        if (fitting == 0) {
            return -2;
        }
        for (int most = 0; most <= 8; most++) {
            for (int s = 0; s < 8; s++) {
                int yes = 0;
                int no = 0;
                for (int i = 0; i < now.all.size(); i++) {
                    boolean fits = (fitting & 1 << i) != 0;
                    yes += fits && now.all.get(i).knows[s] ? 1 : 0;
                    no += fits && !now.all.get(i).knows[s] ? 1 : 0;
                }
                if (Math.max(yes, no) == most) {
                    tell(most);
                    return s;
                }
            }
        }
        throw new IllegalStateException();
    }

    // ---- laws, rests, years

    int law() {
        String t = take();
        int wrong = wrongInRule(t);
        if (wrong >= 0) {
            return -10000 - wrong;
        }
        int[] old = choices(now, rule);
        int[] other = choices(now, t.isEmpty() ? USUAL : t);
        int bits = 0;
        for (int i = 0; i < old.length; i++) {
            bits += old[i] != other[i] ? 1 << i : 0;
        }
        tell(bits, chosen(other));
        return Integer.bitCount(bits);
    }

    private static int canvass(int own, int other, int v) {
        int worth = own > other ? v : own == other ? v / 2 : 0;
        for (int vote = 1; vote <= own; vote++) {
            worth -= vote > 5 ? 3 : 1;
        }
        return worth;
    }

    int rests(int v) {
        if (v < 0 || v > 20) {
            return -1;
        }
        int found = 0;
        tell();
        for (int x = 0; x < 10; x++) {
            for (int y = 0; y < 10; y++) {
                boolean rests = true;
                for (int z = 0; z < 10; z++) {
                    rests &= canvass(z, y, v) <= canvass(x, y, v) && canvass(z, x, v) <= canvass(y, x, v);
                }
                if (rests && found++ == 0) {
                    tell(x, y);
                }
            }
        }
        return found;
    }

    private long r;

    private int draw(int n) {
        r = r * 1103515245L + 12345L & 0xFFFFFFFFL;
        return (int) (r / 65536 % n);
    }

    int years(int seed, int n) {
        if (n < 1 || n > 60) {
            return -1;
        }
        State s = now.copy();
        r = seed;
        int often = 0;
        for (int i = 0; i < n; i++) {
            int kind = draw(4);
            if (kind < 2) {
                month(s);
                often += s.unseen >= 0 ? 1 : 0;
            } else if (!s.all.isEmpty() && kind == 2) {
                int one = draw(s.all.size());
                int other = draw(s.all.size());
                tells(s, one, other);
            } else if (!s.all.isEmpty()) {
                goes(s, draw(s.all.size()));
            }
        }
        tell(s.unseen, known(s));
        return often;
    }

    // ---- kept

    boolean keep(int i) {
        if (i < 0 || i > 2) {
            return false;
        }
        kept[i] = now.copy();
        return true;
    }

    boolean again(int i) {
        if (i < 0 || i > 2 || kept[i] == null) {
            return false;
        }
        now = kept[i].copy();
        past.clear();
        return true;
    }

    int count(int what) {
        int here = 0;
        int debts = 0;
        for (int i = 0; i < now.all.size(); i++) {
            here += now.all.get(i).away ? 0 : 1 << i;
            debts += Arrays.stream(now.all.get(i).debt).sum();
        }
        int[] counts = {now.all.size(), now.month, now.unseen, here, bread(now), known(now), debts, walk.length(),
            noticed.size(), past.size(), row.size(), text.length()};
        return what < 0 || what > 11 ? -100 : counts[what];
    }

    long row(int i) {
        if (i < 0 || i >= row.size()) {
            throw new NoSuchElementException();
        }
        return row.get(i);
    }
}
