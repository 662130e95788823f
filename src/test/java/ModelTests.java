import java.util.ArrayList;
import java.util.List;
import java.util.NoSuchElementException;
import java.util.Random;

/** Runs of made-up calls, each answered by the class and by the model. */
public final class ModelTests {
    private static final String[] GRAMMARS = {
        "desk mixed;rule e is e + t does add;rule e is t does same;rule t is t * f does times;"
            + "rule t is f does same;rule f is ( e ) does same;rule f is value does value",
        "desk whole;rule a is a / b does over;rule a is b does same;rule b is ~ b does minus;"
            + "rule b is ! b ! does whole;rule b is value does value",
        "desk mixed;rule e is e + e does add;rule e is value does value",
        "desk real;rule s is s - t does less;rule s is t does same;rule t is t * u does times;"
            + "rule t is t / u does over;rule t is u does same;rule u is [ s ] does whole;"
            + "rule u is ! s ! does real;rule u is ( s ) does same;rule u is value does value",
        "desk mixed;rule s is s - t does less;rule s is s + t does add;rule s is t does same;"
            + "rule t is t * u does times;rule t is t / u does over;rule t is u does same;"
            + "rule u is [ s ] does whole;rule u is = s = does real;rule u is ( s ) does same;"
            + "rule u is ~ u does minus;rule u is value does value",
        "desk mixed;rule l is ( l ) does same;rule l is [ l ] does minus;rule l is value does value",
        "desk mixed;rule a is b ^ a does times;rule a is b does same;rule b is value does value",
        "desk mixed;rule e is value does value;rule e is value does value;rule e is t does same;"
            + "rule t is + t does minus",
        "desk mixed;rule c is & c | c ! does over;rule c is value does value;"
            + "rule c is & c ! does minus",
        "desk mixed;rule a is + b - does same;rule b is * a / does minus;rule a is value does value",
        "desk mixed;rule s is p - q does add;rule s is * m does same;rule s is n / q does over;"
            + "rule s is + k does same;rule p is q + does same;rule m is - q does same;"
            + "rule n is q * does same;rule k is / q does same;rule q is value does value",
    };
    private static final String[] WORDS = {
        "desk", "rule", "is", "does", "value", "mixed", "whole", "real", "add", "less", "times",
        "over", "minus", "same", "a", "b", "c", "d", "e", "f", "g", "abcdef", "abcdefg", ";", ";",
    };
    private static final String SIGNS = "+-*/^()[]!~=&|";
    private static final String[] NAMED = {
        "about 1", "rule 2", "item 2", "sign 1", "edge 2", "relation 2", "related 1", "clashes 0",
        "clash 1", "doubles 0", "function 2", "highest 0", "hidden 1", "knotted 0", "ring 0",
        "ringAt 1", "read 1", "reduced 1", "node 2", "under 2", "value 1", "third 0",
        "otherwise 0", "later 0", "aside 2", "kind 1", "undo 0", "barren 1", "size 1",
        "trouble 0", "fault 0", "where 0", "formula 2", "grammar 1", "aside 2", "aside 2", "undo 0",
    };
    private static final long THROWN = 0x7ead_0000_0000_0001L;

    private final Random random;
    private final SignLadders desk = new SignLadders();
    private final Model model = new Model();
    private final List<String> said = new ArrayList<>();
    private boolean wrong;
    private int calls;

    private ModelTests(long seed) {
        random = new Random(seed);
    }

    private static long ask(SignLadders x, String name, int[] a) {
        switch (name) {
            case "feed": return x.feed(a[0], a[1], a[2], a[3], a[4]);
            case "grammar": return x.grammar(a[0]);
            case "fault": return x.fault();
            case "where": return x.where();
            case "about": return x.about(a[0]);
            case "rule": return x.rule(a[0], a[1]);
            case "item": return x.item(a[0], a[1]);
            case "sign": return x.sign(a[0]);
            case "edge": return x.edge(a[0], a[1]);
            case "relation": return x.relation(a[0], a[1]);
            case "related": return x.related(a[0]);
            case "clashes": return x.clashes();
            case "clash": return x.clash(a[0]);
            case "doubles": return x.doubles();
            case "function": return x.function(a[0], a[1]);
            case "highest": return x.highest();
            case "hidden": return x.hidden(a[0]);
            case "knotted": return x.knotted();
            case "ring": return x.ring();
            case "ringAt": return x.ringAt(a[0]);
            case "formula": return x.formula(a[0], a[1]);
            case "read": return x.read(a[0]);
            case "reduced": return x.reduced(a[0]);
            case "node": return x.node(a[0], a[1]);
            case "under": return x.under(a[0], a[1]);
            case "value": return x.value(a[0]);
            case "third": return x.third();
            case "otherwise": return x.otherwise();
            case "later": return x.later();
            case "aside": return x.aside(a[0], a[1]);
            case "kind": return x.kind(a[0]);
            case "undo": return x.undo() ? 1 : 0;
            case "size": return x.size(a[0]);
            case "trouble": return x.trouble();
            default:
                try {
                    return x.barren(a[0]);
                } catch (NoSuchElementException e) {
                    return THROWN;
                }
        }
    }

    private long hold(String name, int... a) {
        calls++;
        long want;
        try {
            want = model.call(name, a);
        } catch (NoSuchElementException e) {
            want = THROWN;
        }
        long got = ask(desk, name, a);
        said.add(name + java.util.Arrays.toString(a) + " " + got);
        // What is answered behind the 512th call is free.
        boolean isHeld = !wrong && calls <= 512;
        if (isHeld) {
            Checks.due(name, got, want);
        }
        if (got != want && isHeld) {
            wrong = true;
            System.out.println(String.join("\n", said.subList(Math.max(0, said.size() - 40),
                    said.size())));
        }
        return got;
    }

    // ---- what is fed

    private int feed(String text) {
        for (int from = 0; from < text.length(); from += 20) {
            hold("feed", Checks.fives(text, from));
        }
        return text.length();
    }

    private String oneOf(String[] texts) {
        return texts[random.nextInt(texts.length)];
    }

    private String madeGrammar() {
        StringBuilder text = new StringBuilder("desk " + oneOf(new String[] {
            "mixed", "mixed", "whole", "real"}));
        int names = 1 + random.nextInt(random.nextInt(8) == 0 ? 7 : 4);
        int signs = 1 + random.nextInt(random.nextInt(8) == 0 ? 14 : 6);
        int rules = 1 + random.nextInt(random.nextInt(12) == 0 ? 14 : 8);
        for (int r = 0; r < names; r++) {
            text.append(";rule ").append((char) ('a' + r));
            text.append(random.nextBoolean() ? " is value does value" : madeRule(names, signs));
        }
        for (int r = names; r < rules; r++) {
            text.append(";rule ").append((char) ('a' + random.nextInt(names)));
            text.append(madeRule(names, signs));
        }
        return text.toString();
    }

    private String madeRule(int names, int signs) {
        StringBuilder text = new StringBuilder(" is");
        int length = 1 + random.nextInt(random.nextInt(30) == 0 ? 6 : 5);
        int used = 0;
        boolean free = true;
        for (int i = 0; i < length; i++) {
            boolean name = free && used < 2 && random.nextInt(3) > 0
                    || i == length - 1 && used == 0 && free;
            text.append(' ');
            if (name) {
                text.append((char) ('a' + random.nextInt(names)));
                used++;
            } else {
                text.append(random.nextInt(25) == 0 ? "value" : SIGNS.charAt(random.nextInt(signs)));
            }
            free = !name;
        }
        String[] two = {"add", "less", "times", "over"};
        String[] one = {"minus", "same", "whole", "real"};
        return text.append(" does ").append(oneOf(used == 2 ? two : one)).toString();
    }

    private String jumble() {
        StringBuilder text = new StringBuilder(random.nextInt(3) == 0 ? "" : "desk mixed;rule a is ");
        for (int i = random.nextInt(30); i > 0; i--) {
            text.append(random.nextInt(3) == 0
                    ? String.valueOf(SIGNS.charAt(random.nextInt(14))) : oneOf(WORDS));
            text.append(random.nextInt(12) == 0 ? "" : " ");
        }
        return text.toString();
    }

    private String bend(String text) {
        StringBuilder bent = new StringBuilder(text);
        for (int i = 1 + random.nextInt(2); i > 0 && bent.length() > 0; i--) {
            int at = random.nextInt(bent.length());
            switch (random.nextInt(6)) {
                case 0:
                    bent.deleteCharAt(at);
                    break;
                case 1:
                    bent.setCharAt(at, (char) random.nextInt(256));
                    break;
                case 2:
                    bent.insert(at, " " + oneOf(WORDS) + " ");
                    break;
                case 3:
                    bent.insert(at, SIGNS.charAt(random.nextInt(14)));
                    break;
                case 4:
                    bent.setLength(at);
                    break;
                default:
                    bent.insert(at, "  ;".charAt(random.nextInt(3)));
                    break;
            }
        }
        return bent.toString();
    }

    private void giveGrammar() {
        int which = random.nextInt(10);
        String text = which < 4 ? oneOf(GRAMMARS) : which < 9 ? madeGrammar() : jumble();
        if (random.nextInt(5) == 0) {
            text = bend(text);
        }
        int n = feed(text);
        hold("grammar", random.nextInt(15) == 0 ? n + random.nextInt(25) - 3 : n);
        hold("trouble");
        hold("fault");
        hold("where");
    }

    private String operand() {
        switch (random.nextInt(9)) {
            case 0:
                return "0";
            case 1:
                return "0.0";
            case 2:
                return "9999.9";
            case 3:
                return "0.001";
            case 4:
                return "9999";
            case 5:
                return random.nextInt(10) + "." + random.nextInt(1000);
            case 6:
                return random.nextInt(12000) + "." + random.nextInt(1200);
            default:
                return String.valueOf(random.nextInt(120));
        }
    }

    private String loose() {
        StringBuilder text = new StringBuilder();
        List<String> terminals = model.terminals();
        for (int i = random.nextInt(14); i > 0; i--) {
            if (terminals.isEmpty() || random.nextInt(20) == 0) {
                text.append(SIGNS.charAt(random.nextInt(14)));
            } else {
                String t = terminals.get(random.nextInt(terminals.size()));
                text.append(t.equals("value") ? operand() : t);
            }
            text.append(random.nextInt(3) == 0 ? " " : "");
        }
        return text.toString();
    }

    private String chain() {
        String signs = "+-*/";
        StringBuilder text = new StringBuilder(operand());
        char sign = signs.charAt(random.nextInt(4));
        String same = random.nextBoolean() ? operand() : null;
        for (int i = random.nextInt(34); i > 0; i--) {
            text.append(random.nextInt(6) == 0 ? signs.charAt(random.nextInt(4)) : sign);
            text.append(random.nextInt(8) == 0 ? "~" : "");
            text.append(same == null ? operand() : same);
        }
        return text.toString();
    }

    private void giveFormula() {
        int which = random.nextInt(10);
        String text = which < 5 ? model.derive(random, this::operand)
                : which < 7 ? loose() : which < 9 ? chain() : deep();
        if (random.nextInt(6) == 0) {
            text = bend(text);
        }
        int n = Math.min(900, feed(text));
        hold("formula", random.nextInt(12) == 0 ? n + random.nextInt(9) - 4 : n, random.nextInt(2));
        hold("trouble");
        hold("where");
        if (random.nextInt(3) == 0) {
            sweep();
        }
    }

    private String deep() {
        int open = 12 + random.nextInt(6);
        String sign = oneOf(new String[] {"(", "[", "!", "~"});
        String other = sign.equals("(") ? ")" : sign.equals("[") ? "]" : "";
        return sign.repeat(open) + operand() + other.repeat(open);
    }

    private void sweep() {
        for (int what = 0; what < 5; what++) {
            hold("read", what);
        }
        long nodes = hold("read", 3);
        for (int i = 0; i <= nodes; i++) {
            hold("reduced", i);
            int what = random.nextInt(5);
            hold("node", i, what);
            hold("node", i, 4);
            hold("under", (int) nodes - 1, i);
        }
        hold("value", 0);
        hold("value", 1);
        hold("value", 2);
        hold("third");
        hold("otherwise");
        hold("where");
        hold("trouble");
        hold("later");
    }

    private int argument() {
        switch (random.nextInt(30)) {
            case 0:
                return Integer.MIN_VALUE;
            case 1:
                return Integer.MAX_VALUE;
            case 2:
                return random.nextInt();
            case 3:
                return 100 + random.nextInt(10);
            default:
                return random.nextInt(random.nextBoolean() ? 4 : 15) - (random.nextInt(8) == 0 ? 1 : 0);
        }
    }

    private void sweepRelations() {
        int terminals = model.terminals().size();
        for (int x = 0; x <= terminals; x++) {
            for (int y = 0; y <= terminals; y++) {
                hold("relation", x, y);
            }
            hold("function", x, 0);
            hold("function", x, 1);
            hold("ringAt", x);
            hold("clash", x);
        }
    }

    private void giveAny() {
        String[] call = oneOf(NAMED).split(" ");
        int[] a = new int[Integer.parseInt(call[1])];
        for (int i = 0; i < a.length; i++) {
            a[i] = argument();
        }
        hold(call[0], a);
    }

    private void run() {
        for (int i = 0; i < 8; i++) {
            giveAny();
        }
        while (calls < 512 && !wrong) {
            switch (random.nextInt(24)) {
                case 0:
                    giveGrammar();
                    break;
                case 1:
                    sweepRelations();
                    break;
                case 2:
                    hold("aside", random.nextInt(6), random.nextInt(2));
                    break;
                case 3:
                case 4:
                case 5:
                    giveFormula();
                    break;
                default:
                    giveAny();
                    break;
            }
        }
    }

    public static void main(String[] args) {
        int runs = args.length > 0 ? Integer.parseInt(args[0]) : 1500;
        long from = args.length > 1 ? Long.parseLong(args[1]) : 1;
        long all = 0;
        for (int i = 0; i < runs; i++) {
            ModelTests test = new ModelTests(from + i);
            test.run();
            all += test.calls;
        }
        System.out.println(runs + " runs, " + all + " calls");
        Checks.end();
    }
}
