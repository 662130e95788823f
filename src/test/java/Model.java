import java.util.ArrayDeque;
import java.util.ArrayList;
import java.util.Collections;
import java.util.Deque;
import java.util.HashMap;
import java.util.HashSet;
import java.util.List;
import java.util.Map;
import java.util.NoSuchElementException;
import java.util.Random;
import java.util.Set;
import java.util.TreeSet;
import java.util.function.Supplier;
import java.util.regex.Matcher;
import java.util.regex.Pattern;

/**
 * The document once more, told by other means (sets, regular expressions, recursion, Java's own
 * floats), so that ModelTests can hold the class against it. It is slow and makes many objects.
 */
final class Model {
    private static final int NONE = -1;
    private static final String SIGNS = "+-*/^()[]!~=&|";
    private static final List<String> DEEDS = List.of(
            "add", "less", "times", "over", "minus", "same", "whole", "real", "value");
    private static final List<String> KINDS = List.of("mixed", "whole", "real");
    private static final List<String> NO_NAMES = List.of("desk", "rule", "is", "does", "value");

    private static final class Rule {
        int head;
        final List<Integer> items = new ArrayList<>();
        int deed;
        boolean aside;

        List<Integer> skeleton() {
            List<Integer> bare = new ArrayList<>();
            for (int item : items) {
                bare.add(item >= 100 ? 100 : item);
            }
            return bare;
        }
    }

    private static final class Told {
        int kind;
        final List<Rule> rules = new ArrayList<>();
        final List<String> names = new ArrayList<>();
        final List<String> terminals = new ArrayList<>();
    }

    private static final class Token {
        final String text;
        final int place;

        Token(String text, int place) {
            this.text = text;
            this.place = place;
        }
    }

    /** A number with its kind, or a terminal (then terminal is not NONE), or both a node. */
    private static final class Entry {
        int terminal = NONE;
        Number operand;
        Node node;
    }

    private static final class Node {
        int number;
        int rule;
        Number value;
        final List<Node> under = new ArrayList<>();

        int depth() {
            int deepest = 0;
            for (Node n : under) {
                deepest = Math.max(deepest, n.depth());
            }
            return deepest + 1;
        }

        void list(List<Node> into) {
            into.add(this);
            for (Node n : under) {
                n.list(into);
            }
        }
    }

    private static final class Run {
        int how;
        int fails;
        int place;
        int tokens;
        int steps;
        int most;
        final List<Node> nodes = new ArrayList<>();
        Number value;
    }

    private final StringBuilder tape = new StringBuilder();
    private Told g;
    private final Deque<Runnable> back = new ArrayDeque<>();
    private int fault;
    private int trouble;
    private int place;
    private String formulaText;
    private Run run;

    // ---- refusals

    private static final class Refused extends RuntimeException {
        private static final long serialVersionUID = 1;
        final int number;

        Refused(int number) {
            super(null, null, false, false);
            this.number = number;
        }
    }

    private static void need(boolean so, int number) {
        if (!so) {
            throw new Refused(number);
        }
    }

    /** Answers a call by its name; what may be refused sets the trouble. */
    long call(String name, int... a) {
        switch (name) {
            case "feed":
                return feed(a);
            case "fault":
                return fault;
            case "where":
                return trouble == 4 || trouble == 6 ? place : NONE;
            case "barren":
                return barren(a[0]);
            case "size":
                return size(a[0]);
            case "trouble":
                return trouble;
            default:
                break;
        }
        try {
            long answer = answer(name, a);
            trouble = 0;
            return answer;
        } catch (Refused r) {
            trouble = r.number;
            if (name.equals("undo")) {
                return 0;
            }
            if (name.equals("third")) {
                return Long.MIN_VALUE;
            }
            return name.equals("node") || name.equals("value") ? Integer.MIN_VALUE : NONE;
        }
    }

    private long answer(String name, int[] a) {
        if (name.equals("grammar")) {
            return grammar(a[0]);
        }
        need(g != null, 1);
        switch (name) {
            case "about":
                need(a[0] >= 0 && a[0] <= 3, 1);
                return new int[] {g.kind, g.rules.size(), g.names.size(), g.terminals.size()}[a[0]];
            case "rule":
                return ruleWhat(ruleOf(a[0]), a[1]);
            case "item":
                need(a[1] >= 0 && a[1] < ruleOf(a[0]).items.size(), 1);
                return ruleOf(a[0]).items.get(a[1]);
            case "sign":
                terminal(a[0]);
                return a[0] == end() ? -2 : signByte(g.terminals.get(a[0]));
            case "edge":
                need(a[0] >= 0 && a[0] < g.names.size() && (a[1] == 0 || a[1] == 1), 1);
                return bits(edge(a[0], a[1] == 1, new HashSet<>()));
            case "relation":
                terminal(a[0]);
                terminal(a[1]);
                return relation(a[0], a[1]);
            case "related":
                need(a[0] == 1 || a[0] == 2 || a[0] == 4, 2);
                return countRelated(a[0]);
            case "clashes":
                return clashes().size();
            case "clash":
                need(a[0] >= 0 && a[0] < clashes().size(), 1);
                return clashes().get(a[0]);
            case "doubles":
                return doubles();
            default:
                return answerMore(name, a);
        }
    }

    private long answerMore(String name, int[] a) {
        switch (name) {
            case "function":
                terminal(a[0]);
                need(a[1] == 0 || a[1] == 1, 1);
                need(ring().isEmpty(), 5);
                return number(a[0] + 16 * a[1]);
            case "highest": {
                need(ring().isEmpty(), 5);
                int most = 0;
                for (int p : points()) {
                    most = Math.max(most, number(p));
                }
                return most;
            }
            case "hidden":
                need(a[0] == 1 || a[0] == 2 || a[0] == 4, 2);
                need(ring().isEmpty(), 5);
                return hidden(a[0]);
            case "knotted": {
                Set<Integer> all = new HashSet<>();
                for (int p : points()) {
                    all.add(knot(p));
                }
                return all.size();
            }
            case "ring":
                return ring().size();
            case "ringAt":
                need(a[0] >= 0 && a[0] < ring().size(), 1);
                return ring().get(a[0]);
            case "formula":
                return formula(a[0], a[1]);
            case "aside":
                return aside(a[0], a[1]);
            case "kind":
                return kind(a[0]);
            case "undo":
                need(!back.isEmpty(), 1);
                back.removeLast().run();
                run = null;
                refresh();
                return 1;
            default:
                need(run != null, 1);
                return answerFormula(name, a);
        }
    }

    private long answerFormula(String name, int[] a) {
        switch (name) {
            case "read":
                need(a[0] >= 0 && a[0] <= 4, 1);
                return new int[] {run.fails, run.tokens, run.steps, run.nodes.size(), run.most}[a[0]];
            case "reduced":
                return nodeOf(a[0]).rule;
            case "node": {
                Node n = nodeOf(a[0]);
                need(a[1] >= 0 && a[1] <= 4, 1);
                return new int[] {
                    n.under.size() > 0 ? n.under.get(0).number : -2,
                    n.under.size() > 1 ? n.under.get(1).number : -2,
                    n.depth(),
                    n.value instanceof Float ? 1 : 0,
                    bitsOf(n.value)}[a[1]];
            }
            case "under": {
                List<Node> all = new ArrayList<>();
                nodeOf(a[0]).list(all);
                need(a[1] >= 0 && a[1] < all.size(), 1);
                return all.get(a[1]).number;
            }
            case "value":
                need(run.fails == 0 && a[0] >= 0 && a[0] <= 2, 1);
                return new int[] {
                    run.value instanceof Float ? 1 : 0, bitsOf(run.value), run.value.intValue()}[a[0]];
            case "third":
                need(run.fails == 0, 1);
                return Double.doubleToLongBits(run.value.doubleValue() / 3);
            case "otherwise": {
                need(readable(1 - run.how), 5);
                Run second = go(1 - run.how);
                place = second.place;
                need(second.fails == 0, 6);
                return second.steps;
            }
            case "later":
                need(readable(0) && readable(1), 5);
                return go(1).steps - go(0).steps;
            default:
                throw new IllegalArgumentException(name);
        }
    }

    private static int bitsOf(Number value) {
        return value instanceof Float ? Float.floatToIntBits((Float) value) : value.intValue();
    }

    private Node nodeOf(int i) {
        need(i >= 0 && i < run.nodes.size(), 1);
        return run.nodes.get(i);
    }

    private Rule ruleOf(int r) {
        need(r >= 0 && r < g.rules.size(), 1);
        return g.rules.get(r);
    }

    private static int ruleWhat(Rule rule, int what) {
        need(what >= 0 && what <= 3, 1);
        return new int[] {rule.head, rule.items.size(), rule.deed, rule.aside ? 1 : 0}[what];
    }

    private void terminal(int t) {
        need(t >= 0 && t <= end(), 1);
    }

    private int end() {
        return g.terminals.size();
    }

    private static int signByte(String terminal) {
        return terminal.equals("value") ? 0 : terminal.charAt(0);
    }

    // ---- the grammar's text

    private int feed(int[] numbers) {
        if (tape.length() + 20 > 900) {
            return NONE;
        }
        for (int number : numbers) {
            for (int i = 3; i >= 0; i--) {
                tape.append((char) (number >>> 8 * i & 255));
            }
        }
        return tape.length();
    }

    private String takeTape(int n) {
        String taken = tape.substring(0, n);
        tape.setLength(0);
        return taken;
    }

    private int grammar(int n) {
        need(n >= 0 && n <= tape.length(), 2);
        String text = takeTape(n);
        int[] first = firstFault(text);
        fault = first == null ? 0 : first[1];
        if (first != null) {
            place = first[0];
            throw new Refused(4);
        }
        g = tell(tokensOf(text, new int[1]));
        run = null;
        back.clear();
        refresh();
        return g.rules.size();
    }

    private static List<Token> tokensOf(String text, int[] stop) {
        Matcher m = Pattern.compile(" *(([a-z]+)|[-+*/^()\\[\\]!~=&|;])").matcher(text);
        List<Token> all = new ArrayList<>();
        int at = 0;
        while (m.find(at) && m.start() == at
                && (m.group(2) == null || m.group(2).length() <= 6)) {
            all.add(new Token(m.group(1), m.start(1)));
            at = m.end();
            if (at == text.length()) {
                break;
            }
        }
        while (at < text.length() && text.charAt(at) == ' ') {
            at++;
        }
        stop[0] = at;
        return all;
    }

    private static final Pattern WHOLE_TEXT = Pattern.compile(line() + "(; " + line() + ")*");

    private static String line() {
        String name = "(?!(desk|rule|is|does|value) )[a-z]{1,6} ";
        String item = "(" + name + "|[-+*/^()\\[\\]!~=&|] |value )";
        String deed = "(" + String.join("|", DEEDS) + ") ";
        return "(desk (mixed|whole|real) |rule " + name + "is " + item + "+does " + deed + ")";
    }

    /** Place and number of the fault, or null. */
    private static int[] firstFault(String text) {
        int[] stop = new int[1];
        List<Token> tokens = tokensOf(text, stop);
        List<int[]> faults = new ArrayList<>();
        StringBuilder joined = new StringBuilder();
        int formAt = NONE;
        for (Token t : tokens) {
            joined.append(t.text).append(' ');
            Matcher m = WHOLE_TEXT.matcher(joined);
            if (!m.matches() && !m.hitEnd()) {
                formAt = t.place;
                break;
            }
        }
        if (formAt == NONE && (stop[0] < text.length() || !WHOLE_TEXT.matcher(joined).matches())) {
            formAt = stop[0];
        }
        if (formAt != NONE) {
            faults.add(new int[] {formAt, 1});
        } else if (lacksAtEnd(tokens)) {
            faults.add(new int[] {text.length(), 5});
        }
        addOtherFaults(tokens, faults);
        int[] least = null;
        for (int[] f : faults) {
            if (least == null || f[0] < least[0] || f[0] == least[0] && f[1] < least[1]) {
                least = f;
            }
        }
        return least;
    }

    private static List<List<Token>> lines(List<Token> tokens) {
        List<List<Token>> all = new ArrayList<>();
        all.add(new ArrayList<>());
        for (Token t : tokens) {
            if (t.text.equals(";")) {
                all.add(new ArrayList<>());
            } else {
                all.get(all.size() - 1).add(t);
            }
        }
        return all;
    }

    private static boolean isName(String text) {
        return Character.isLetter(text.charAt(0)) && !NO_NAMES.contains(text);
    }

    private static boolean isTerminal(String text) {
        return text.equals("value") || SIGNS.contains(text);
    }

    private static boolean lacksAtEnd(List<Token> tokens) {
        Set<String> heads = new HashSet<>();
        Set<String> names = new HashSet<>();
        for (List<Token> line : lines(tokens)) {
            if (line.get(0).text.equals("rule")) {
                heads.add(line.get(1).text);
                for (int i = 3; i < line.size() - 2; i++) {
                    if (isName(line.get(i).text)) {
                        names.add(line.get(i).text);
                    }
                }
            }
        }
        return heads.isEmpty() || !heads.containsAll(names);
    }

    private static void addOtherFaults(List<Token> tokens, List<int[]> faults) {
        int desks = 0;
        int rules = 0;
        List<String> names = new ArrayList<>();
        List<String> terminals = new ArrayList<>();
        for (List<Token> line : lines(tokens)) {
            if (line.isEmpty()) {
                continue;
            }
            Token first = line.get(0);
            if (first.text.equals("desk")) {
                desks++;
                if (desks > 1) {
                    faults.add(new int[] {first.place, 6});
                }
            } else if (first.text.equals("rule")) {
                rules++;
                if (desks == 0) {
                    faults.add(new int[] {first.place, 5});
                }
                if (rules > 12) {
                    faults.add(new int[] {first.place, 4});
                }
                addRuleFaults(line, names, terminals, faults);
            }
        }
    }

    private static void addRuleFaults(
            List<Token> line, List<String> names, List<String> terminals, List<int[]> faults) {
        if (line.size() > 1) {
            count(line.get(1), names, 6, faults);
        }
        List<String> items = new ArrayList<>();
        for (int i = 3; i < line.size(); i++) {
            Token t = line.get(i);
            if (t.text.equals("does")) {
                if (i + 1 < line.size() && !goes(line.get(i + 1).text, items)) {
                    faults.add(new int[] {line.get(i + 1).place, 2});
                }
                return;
            }
            if (isName(t.text)) {
                if (i > 3 && isName(line.get(i - 1).text)) {
                    faults.add(new int[] {t.place, 3});
                }
                count(t, names, 6, faults);
            } else if (isTerminal(t.text)) {
                count(t, terminals, 11, faults);
            }
            items.add(t.text);
            if (items.size() > 5) {
                faults.add(new int[] {t.place, 4});
            }
        }
    }

    private static void count(Token t, List<String> known, int most, List<int[]> faults) {
        if (!known.contains(t.text)) {
            known.add(t.text);
            if (known.size() > most) {
                faults.add(new int[] {t.place, 4});
            }
        }
    }

    private static boolean goes(String deed, List<String> items) {
        long names = items.stream().filter(Model::isName).count();
        switch (deed) {
            case "add": case "less": case "times": case "over":
                return names == 2;
            case "minus": case "same": case "whole": case "real":
                return names == 1;
            default:
                return items.equals(List.of("value"));
        }
    }

    private static int numberOf(String text, List<String> known) {
        if (!known.contains(text)) {
            known.add(text);
        }
        return known.indexOf(text);
    }

    private static Told tell(List<Token> tokens) {
        Told told = new Told();
        for (List<Token> line : lines(tokens)) {
            if (line.get(0).text.equals("desk")) {
                told.kind = KINDS.indexOf(line.get(1).text);
                continue;
            }
            Rule rule = new Rule();
            rule.head = numberOf(line.get(1).text, told.names);
            for (Token t : line.subList(3, line.size() - 2)) {
                rule.items.add(isName(t.text)
                        ? 100 + numberOf(t.text, told.names)
                        : numberOf(t.text, told.terminals));
            }
            rule.deed = DEEDS.indexOf(line.get(line.size() - 1).text);
            told.rules.add(rule);
        }
        return told;
    }

    // ---- relations

    private static int bits(Set<Integer> set) {
        int bits = 0;
        for (int i : set) {
            bits |= 1 << i;
        }
        return bits;
    }

    private Set<Integer> edge(int name, boolean fromEnd, Set<Integer> seen) {
        Set<Integer> all = new HashSet<>();
        if (!seen.add(name)) {
            return all;
        }
        for (Rule rule : g.rules) {
            if (rule.aside || rule.head != name) {
                continue;
            }
            List<Integer> items = new ArrayList<>(rule.items);
            if (fromEnd) {
                Collections.reverse(items);
            }
            if (items.get(0) < 100) {
                all.add(items.get(0));
                continue;
            }
            all.addAll(edge(items.get(0) - 100, fromEnd, seen));
            if (items.size() > 1) {
                all.add(items.get(1));
            }
        }
        return all;
    }

    private int[][] sums;
    private final Map<Integer, Integer> knotNow = new HashMap<>();
    private final Map<Integer, TreeSet<Integer>> nextsNow = new HashMap<>();
    private final Map<Integer, Integer> longestNow = new HashMap<>();
    private List<Integer> ringNow;

    // What hangs on the rules is told anew when they change, not at each call.
    private void refresh() {
        sums = new int[end() + 1][end() + 1];
        for (int x = 0; x <= end(); x++) {
            for (int y = 0; y <= end(); y++) {
                sums[x][y] = relationTold(x, y);
            }
        }
        knotNow.clear();
        for (int p : points()) {
            knotNow.put(p, knotTold(p));
        }
        nextsNow.clear();
        for (int k : knotNow.values()) {
            nextsNow.put(k, nextTold(k));
        }
        longestNow.clear();
        ringNow = ringTold();
    }

    private int relation(int x, int y) {
        return sums[x][y];
    }

    private int relationTold(int x, int y) {
        if (x == end() || y == end()) {
            boolean below = x == end() && y != end() && edge(0, false, new HashSet<>()).contains(y);
            boolean above = y == end() && x != end() && edge(0, true, new HashSet<>()).contains(x);
            return (below ? 1 : 0) + (above ? 4 : 0);
        }
        boolean below = false;
        boolean like = false;
        boolean above = false;
        for (Rule rule : g.rules) {
            List<Integer> s = rule.items;
            for (int i = 0; !rule.aside && i < s.size(); i++) {
                boolean two = i + 1 < s.size();
                boolean three = i + 2 < s.size();
                if (two && s.get(i) == x && s.get(i + 1) >= 100) {
                    below |= edge(s.get(i + 1) - 100, false, new HashSet<>()).contains(y);
                }
                like |= two && s.get(i) == x && s.get(i + 1) == y;
                like |= three && s.get(i) == x && s.get(i + 1) >= 100 && s.get(i + 2) == y;
                if (two && s.get(i) >= 100 && s.get(i + 1) == y) {
                    above |= edge(s.get(i) - 100, true, new HashSet<>()).contains(x);
                }
            }
        }
        return (below ? 1 : 0) + (like ? 2 : 0) + (above ? 4 : 0);
    }

    private int countRelated(int relation) {
        int count = 0;
        for (int x = 0; x <= end(); x++) {
            for (int y = 0; y <= end(); y++) {
                count += (relation(x, y) & relation) != 0 ? 1 : 0;
            }
        }
        return count;
    }

    private List<Integer> clashes() {
        List<Integer> all = new ArrayList<>();
        for (int x = 0; x <= end(); x++) {
            for (int y = 0; y <= end(); y++) {
                if (!List.of(0, 1, 2, 4).contains(relation(x, y))) {
                    all.add(16 * x + y);
                }
            }
        }
        return all;
    }

    private int doubles() {
        int bits = 0;
        Set<List<Integer>> seen = new HashSet<>();
        for (int r = 0; r < g.rules.size(); r++) {
            Rule rule = g.rules.get(r);
            List<Integer> bare = rule.skeleton();
            if (!rule.aside && !bare.equals(List.of(100)) && !seen.add(bare)) {
                bits += 1 << r;
            }
        }
        return bits;
    }

    // ---- functions

    private List<Integer> points() {
        List<Integer> all = new ArrayList<>();
        for (int t = 0; t <= end(); t++) {
            all.add(t);
        }
        for (int t = 0; t <= end(); t++) {
            all.add(16 + t);
        }
        return all;
    }

    private int knot(int point) {
        return knotNow.get(point);
    }

    private int knotTold(int point) {
        TreeSet<Integer> tied = new TreeSet<>();
        Deque<Integer> open = new ArrayDeque<>(List.of(point));
        while (!open.isEmpty()) {
            int p = open.pop();
            if (!tied.add(p)) {
                continue;
            }
            for (int t = 0; t <= end(); t++) {
                boolean like = p < 16 ? (relation(p, t) & 2) != 0 : (relation(t, p - 16) & 2) != 0;
                if (like) {
                    open.push(p < 16 ? 16 + t : t);
                }
            }
        }
        return tied.first();
    }

    private TreeSet<Integer> nextTold(int knot) {
        TreeSet<Integer> all = new TreeSet<>();
        for (int x = 0; x <= end(); x++) {
            for (int y = 0; y <= end(); y++) {
                if ((relation(x, y) & 1) != 0 && knot(16 + y) == knot) {
                    all.add(knot(x));
                }
                if ((relation(x, y) & 4) != 0 && knot(x) == knot) {
                    all.add(knot(16 + y));
                }
            }
        }
        return all;
    }

    private List<Integer> ring() {
        return ringNow;
    }

    private List<Integer> ringTold() {
        for (int k : new TreeSet<>(knotNow.values())) {
            List<Integer> found = shortestBack(k);
            if (found != null) {
                return found;
            }
        }
        return List.of();
    }

    // Ways in order of length, of like ones in order of their knots; a knot is reached by the
    // first of its ways only, since what is behind it is the same.
    private List<Integer> shortestBack(int start) {
        Deque<List<Integer>> ways = new ArrayDeque<>();
        ways.add(List.of(start));
        Set<Integer> seen = new HashSet<>();
        while (!ways.isEmpty()) {
            List<Integer> way = ways.poll();
            TreeSet<Integer> on = nextsNow.get(way.get(way.size() - 1));
            if (on.contains(start)) {
                return way;
            }
            for (int p : on) {
                if (seen.add(p)) {
                    List<Integer> longer = new ArrayList<>(way);
                    longer.add(p);
                    ways.add(longer);
                }
            }
        }
        return null;
    }

    private int number(int point) {
        return longest(knot(point));
    }

    private int longest(int knot) {
        if (longestNow.containsKey(knot)) {
            return longestNow.get(knot);
        }
        int most = 0;
        for (int p : nextsNow.get(knot)) {
            most = Math.max(most, 1 + longest(p));
        }
        longestNow.put(knot, most);
        return most;
    }

    private int compared(int x, int y) {
        int order = Integer.compare(number(x), number(16 + y));
        return order < 0 ? 1 : order == 0 ? 2 : 4;
    }

    private int hidden(int relation) {
        int count = 0;
        for (int x = 0; x <= end(); x++) {
            for (int y = 0; y <= end(); y++) {
                count += relation(x, y) == 0 && compared(x, y) == relation ? 1 : 0;
            }
        }
        return count;
    }

    // ---- formulas

    private boolean readable(int how) {
        return how == 0 ? clashes().isEmpty() : ring().isEmpty();
    }

    private int formula(int n, int how) {
        need(how == 0 || how == 1, 1);
        need(n >= 0 && n <= tape.length(), 2);
        need(readable(how), 5);
        formulaText = takeTape(n);
        run = go(how);
        place = run.place;
        need(run.fails == 0, 6);
        return run.steps;
    }

    private static final class Failed extends RuntimeException {
        private static final long serialVersionUID = 1;
        final int number;

        Failed(int number) {
            super(null, null, false, false);
            this.number = number;
        }
    }

    /** The formula's tokens, or null with the place of what is none in bad[0]. */
    private List<Token> formulaTokens(int[] bad) {
        List<Token> all = new ArrayList<>();
        Pattern token = Pattern.compile("[-+*/^()\\[\\]!~=&|]|[0-9]+([.][0-9]*)?");
        int at = 0;
        while (at < formulaText.length()) {
            if (formulaText.charAt(at) == ' ') {
                at++;
                continue;
            }
            Matcher m = token.matcher(formulaText).region(at, formulaText.length());
            boolean fits = m.lookingAt() && (Character.isDigit(formulaText.charAt(at))
                    ? m.group().matches("[0-9]{1,4}([.][0-9]{1,3})?") : true);
            if (!fits || all.size() == 60) {
                bad[0] = at;
                return null;
            }
            all.add(new Token(m.group(), at));
            at = m.end();
        }
        return all;
    }

    private Run go(int how) {
        Run r = new Run();
        r.how = how;
        int[] bad = new int[1];
        List<Token> tokens = formulaTokens(bad);
        if (tokens == null) {
            r.fails = 1;
            r.place = bad[0];
            return r;
        }
        r.tokens = tokens.size();
        int[] next = new int[1];
        try {
            goThrough(r, tokens, next);
        } catch (Failed f) {
            r.fails = f.number;
            r.place = next[0] < tokens.size() ? tokens.get(next[0]).place : formulaText.length();
        }
        return r;
    }

    private static Number operand(String text) {
        int point = text.indexOf('.');
        if (point < 0) {
            return Integer.valueOf(text);
        }
        int digits = Integer.parseInt(text.replace(".", ""));
        int parts = text.length() - point - 1;
        return (float) digits / (float) (parts == 1 ? 10 : parts == 2 ? 100 : 1000);
    }

    private void goThrough(Run r, List<Token> tokens, int[] next) {
        List<Entry> stack = new ArrayList<>();
        Entry bottom = new Entry();
        bottom.terminal = end();
        stack.add(bottom);
        while (true) {
            Entry in = new Entry();
            in.terminal = end();
            if (next[0] < tokens.size()) {
                String text = tokens.get(next[0]).text;
                boolean digits = Character.isDigit(text.charAt(0));
                in.operand = digits ? operand(text) : null;
                in.terminal = g.terminals.indexOf(digits ? "value" : text);
            }
            fail(in.terminal == NONE, 2);
            int x = stack.get(lastTerminal(stack, stack.size())).terminal;
            if (x == end() && in.terminal == end()) {
                fail(stack.size() != 2, 4);
                r.value = stack.get(1).node.value;
                return;
            }
            int order = order(r.how, x, in.terminal);
            fail(order == 0, 3);
            if (order == 4) {
                reduce(r, stack);
            } else {
                long terminals = stack.stream().filter(e -> e.terminal != NONE).count();
                fail(terminals == 16, 7);
                r.most = Math.max(r.most, (int) terminals);
                stack.add(in);
                next[0]++;
            }
            r.steps++;
        }
    }

    private static void fail(boolean so, int number) {
        if (so) {
            throw new Failed(number);
        }
    }

    private static int lastTerminal(List<Entry> stack, int ahead) {
        int i = ahead - 1;
        while (stack.get(i).terminal == NONE) {
            i--;
        }
        return i;
    }

    private int order(int how, int x, int y) {
        if (how == 0) {
            return relation(x, y);
        }
        int order = compared(x, y);
        if (x == end() && order != 1 || y == end() && order != 4) {
            return 0;
        }
        return order;
    }

    private void reduce(Run r, List<Entry> stack) {
        int from = lastTerminal(stack, stack.size());
        int ahead = lastTerminal(stack, from);
        while (order(r.how, stack.get(ahead).terminal, stack.get(from).terminal) == 2) {
            from = ahead;
            ahead = lastTerminal(stack, from);
        }
        List<Entry> off = stack.subList(ahead + 1, stack.size());
        List<Integer> bare = new ArrayList<>();
        Node node = new Node();
        for (Entry e : off) {
            bare.add(e.terminal == NONE ? 100 : e.terminal);
            if (e.terminal == NONE) {
                node.under.add(e.node);
            }
        }
        node.rule = NONE;
        for (int i = g.rules.size() - 1; i >= 0; i--) {
            Rule rule = g.rules.get(i);
            if (!rule.aside && rule.skeleton().equals(bare)) {
                node.rule = i;
            }
        }
        fail(node.rule == NONE, 4);
        node.value = make(g.rules.get(node.rule).deed, off.get(0).operand, node.under);
        fail(g.kind == 1 && node.value instanceof Float, 5);
        fail(g.kind == 2 && node.value instanceof Integer, 5);
        off.clear();
        node.number = r.nodes.size();
        r.nodes.add(node);
        Entry made = new Entry();
        made.node = node;
        stack.add(made);
    }

    private static Number make(int deed, Number operand, List<Node> under) {
        if (deed == 8) {
            return operand;
        }
        Number a = under.get(0).value;
        switch (deed) {
            case 4:
                return a instanceof Float ? (Number) (-a.floatValue()) : (Number) (-a.intValue());
            case 5:
                return a;
            case 6:
                return a.intValue();
            case 7:
                return a.floatValue();
            default:
                break;
        }
        Number b = under.get(1).value;
        if (a instanceof Integer && b instanceof Integer) {
            return wholes(deed, a.intValue(), b.intValue());
        }
        return reals(deed, a.floatValue(), b.floatValue());
    }

    private static int wholes(int deed, int a, int b) {
        fail(deed == 3 && b == 0, 6);
        return deed == 0 ? a + b : deed == 1 ? a - b : deed == 2 ? a * b : a / b;
    }

    private static float reals(int deed, float a, float b) {
        return deed == 0 ? a + b : deed == 1 ? a - b : deed == 2 ? a * b : a / b;
    }

    // ---- acts and what is told

    private void keepAct(Runnable undoing) {
        back.addLast(undoing);
        if (back.size() > 10) {
            back.removeFirst();
        }
        run = null;
    }

    private int aside(int r, int is) {
        Rule rule = ruleOf(r);
        need(is == 0 || is == 1, 2);
        need(rule.aside != (is == 1), 5);
        rule.aside = is == 1;
        keepAct(() -> rule.aside = is == 0);
        refresh();
        return asides();
    }

    private int kind(int k) {
        need(k >= 0 && k <= 2, 2);
        int was = g.kind;
        g.kind = k;
        keepAct(() -> g.kind = was);
        return was;
    }

    private int asides() {
        int count = 0;
        for (Rule rule : g.rules) {
            count += rule.aside ? 1 : 0;
        }
        return count;
    }

    private int barren(int i) {
        List<Integer> all = new ArrayList<>();
        for (int name = 0; g != null && name < g.names.size(); name++) {
            boolean fruitful = false;
            for (Rule rule : g.rules) {
                fruitful |= rule.head == name && !rule.aside;
            }
            if (!fruitful) {
                all.add(name);
            }
        }
        if (i < 0 || i >= all.size()) {
            throw new NoSuchElementException();
        }
        return all.get(i);
    }

    private int size(int what) {
        switch (what) {
            case 0:
                return tape.length();
            case 1:
                return back.size();
            case 2:
                return g == null ? 0 : asides();
            default:
                return NONE;
        }
    }

    /** The signs of the grammar's terminals, for tests that make up formulas. */
    List<String> terminals() {
        return g == null ? List.of() : g.terminals;
    }

    /** A text that some grammar rule makes, for tests that make up formulas. */
    String derive(Random random, Supplier<String> operands) {
        if (g == null) {
            return "";
        }
        StringBuilder made = new StringBuilder();
        derive(0, random, operands, made, 0);
        return made.toString();
    }

    private void derive(int name, Random random,
            Supplier<String> operands, StringBuilder made, int deep) {
        List<Rule> fit = new ArrayList<>();
        for (Rule rule : g.rules) {
            if (rule.head == name) {
                fit.add(rule);
            }
        }
        if (fit.isEmpty() || deep > 12 || made.length() > 300) {
            made.append(operands.get());
            return;
        }
        Rule rule = fit.get(random.nextInt(fit.size()));
        for (int item : rule.items) {
            if (item >= 100) {
                derive(item - 100, random, operands, made, deep + 1);
            } else if (g.terminals.get(item).equals("value")) {
                made.append(operands.get());
            } else {
                made.append(g.terminals.get(item));
            }
            if (random.nextInt(6) == 0) {
                made.append(' ');
            }
        }
    }
}
