import java.lang.reflect.InvocationTargetException;
import java.lang.reflect.Method;
import java.lang.reflect.Modifier;
import java.util.NoSuchElementException;
import java.util.TreeMap;

/**
 * What the tests of the document's boundary cases share: one desk, and its answers held together
 * with the trouble and the place behind them. Each test is a method that is named by a promise's or
 * a term's number; it makes its own desks.
 */
abstract class Bench {
    static final int NONE = SignLadders.NONE;
    static final int MIN = Integer.MIN_VALUE;
    static final int MAX = Integer.MAX_VALUE;
    static final int THROWN = -1000;

    /** + 0, * 1, ( 2, ) 3, value 4, END 5; e 0, t 1, f 2. */
    static final String SUMS =
            "desk mixed;rule e is e + t does add;rule e is t does same;rule t is t * f does times;"
            + "rule t is f does same;rule f is ( e ) does same;rule f is value does value";
    /** + 0, value 1, END 2: + is both below and above itself. */
    static final String CLASHING = "desk mixed;rule e is e + e does add;rule e is value does value";
    /** All nine deeds. + 0, - 1, * 2, / 3, ~ 4, [ 5, ] 6, = 7, ( 8, ) 9, value 10, END 11. */
    static final String ALL_DEEDS =
            "desk mixed;rule s is s + t does add;rule s is s - t does less;rule s is t does same;"
            + "rule t is t * u does times;rule t is t / u does over;rule t is u does same;"
            + "rule u is ~ u does minus;rule u is [ s ] does whole;rule u is = u does real;"
            + "rule u is ( s ) does same;rule u is value does value";
    /** - 0, * 1, / 2, + 3, value 4, END 5: no clash, but a ring of F *, G /, F +, G -. */
    static final String RINGED =
            "desk mixed;rule s is p - q does add;rule s is * m does same;rule s is n / q does over;"
            + "rule s is + k does same;rule p is q + does same;rule m is - q does same;"
            + "rule n is q * does same;rule k is / q does same;rule q is value does value";
    /** ! 0, value 1, END 2: a sign behind its value, so that the stack never grows. */
    static final String BEHIND =
            "desk mixed;rule e is e ! does minus;rule e is value does value";
    static final String VALUE_RULE = "rule e is value does value";

    /** Numbers that no call takes as the number of something. */
    static final int[] WILD = {-1, MIN, MAX, MIN + 1, 1 << 16, -100, 1 << 31 | 1};

    static SignLadders x;

    interface Call {
        long ask();
    }

    // ---- texts

    static void fresh() {
        x = new SignLadders();
    }

    static void stand(String text) {
        x = Checks.deskOf(text);
    }

    static int feed(String text) {
        return Checks.feed(x, text);
    }

    static int grammar(String text) {
        return Checks.grammar(x, text);
    }

    static int say(String text, int how) {
        return Checks.formula(x, text, how);
    }

    /** A text of n bytes: the head, blanks, the tail. */
    static String spread(String head, String tail, int n) {
        return head + " ".repeat(n - head.length() - tail.length()) + tail;
    }

    static String rules(int n, String rule) {
        return "desk mixed" + (";" + rule).repeat(n);
    }

    // ---- answers

    static void due(String what, long got, long want) {
        Checks.due(what, got, want);
    }

    static void granted(String what, long got, long want) {
        due(what, got, want);
        due(what + ": trouble", x.trouble(), 0);
        due(what + ": where", x.where(), NONE);
    }

    static void refused(String what, long got, int number) {
        refused(what, got, NONE, number);
    }

    /** Refused by 1, 2 or 5: such a refusal has no place. */
    static void refused(String what, long got, long answer, int number) {
        due(what, got, answer);
        due(what + ": trouble", x.trouble(), number);
        due(what + ": where", x.where(), NONE);
    }

    static void isTrue(String what, boolean so) {
        due(what, so ? 1 : 0, 1);
    }

    static int barren(int i) {
        try {
            return x.barren(i);
        } catch (NoSuchElementException e) {
            return THROWN;
        }
    }

    // ---- grammars

    /** A new desk takes the text as a grammar of so many rules. */
    static void taken(int rules, String text) {
        fresh();
        granted("'" + text + "'", grammar(text), rules);
        due("'" + text + "': fault", x.fault(), 0);
        due("'" + text + "': tape", x.size(0), 0);
    }

    /** A new desk refuses the text by a fault at the sign @, which isn't part of it. */
    static void faulty(int number, String text) {
        faultyAt(number, text.replace("@", ""), text.indexOf('@'));
    }

    static void faultyAt(int number, String text, int place) {
        fresh();
        String what = "'" + text + "'";
        due(what, grammar(text), NONE);
        due(what + ": trouble", x.trouble(), 4);
        due(what + ": fault", x.fault(), number);
        due(what + ": where", x.where(), place);
        due(what + ": tape", x.size(0), 0);
        refused(what + ": no grammar", x.about(1), 1);
    }

    // ---- formulas

    /** The formula fails at the sign @, by relations and by functions. */
    static void fails(int number, String text) {
        fails(number, text, 0);
        fails(number, text, 1);
    }

    static void fails(int number, String text, int how) {
        String what = "'" + text + "' by " + how;
        due(what, say(text.replace("@", ""), how), NONE);
        due(what + ": trouble", x.trouble(), 6);
        due(what + ": where", x.where(), text.indexOf('@'));
        granted(what + ": fails", x.read(0), number);
        due(what + ": tape", x.size(0), 0);
        refused(what + ": value", x.value(1), MIN, 1);
        refused(what + ": third", x.third(), Long.MIN_VALUE, 1);
    }

    /** The formula is read, both ways, in so many steps. */
    static void reads(String text, int steps) {
        for (int how = 0; how < 2; how++) {
            granted("'" + text + "' by " + how, say(text, how), steps);
            granted("'" + text + "' by " + how + ": fails", x.read(0), 0);
        }
    }

    static void isWhole(String text, int value) {
        due("'" + text + "' is read", say(text, 0) > 0 ? 1 : x.read(0) + 10, 1);
        granted("'" + text + "': kind", x.value(0), 0);
        granted("'" + text + "': bits", x.value(1), value);
        granted("'" + text + "': as an int", x.value(2), value);
        granted("'" + text + "': third", x.third(), Double.doubleToLongBits((double) value / 3));
    }

    static void isReal(String text, float value) {
        due("'" + text + "' is read", say(text, 0) > 0 ? 1 : x.read(0) + 10, 1);
        granted("'" + text + "': kind", x.value(0), 1);
        granted("'" + text + "': bits", x.value(1), Float.floatToIntBits(value));
        granted("'" + text + "': as an int", x.value(2), (int) value);
        granted("'" + text + "': third", x.third(), Double.doubleToLongBits((double) value / 3));
    }

    // ---- what a refused call leaves

    /** All that the desk tells of its grammar and its acts, in some eighty calls. */
    static String toldOfGrammar() {
        StringBuilder all = new StringBuilder();
        for (int what = 0; what < 4; what++) {
            all.append(x.about(what)).append(what < 3 ? " " + x.size(what) + " " : "\n");
        }
        for (int r = 0; r < x.about(1); r++) {
            for (int what = 0; what < 4; what++) {
                all.append(x.rule(r, what)).append(' ');
            }
            for (int i = 0; i < x.rule(r, 1); i++) {
                all.append(x.item(r, i)).append(i < 4 ? " " : "\n");
            }
        }
        for (int t = 0; t <= x.about(3); t++) {
            all.append(x.sign(t)).append(' ').append(x.function(t, 0)).append(' ');
        }
        all.append(x.related(1)).append(' ').append(x.related(2)).append(' ').append(x.related(4));
        all.append(' ').append(x.clashes()).append(' ').append(x.doubles()).append(' ');
        all.append(x.highest()).append(' ').append(x.knotted()).append(' ').append(x.ring());
        return all.append(' ').append(barren(0)).toString();
    }

    /** All that the desk tells of the formula. */
    static String toldOfFormula() {
        StringBuilder all = new StringBuilder();
        for (int what = 0; what < 5; what++) {
            all.append(x.read(what)).append(' ');
        }
        for (int i = 0; i < x.read(3); i++) {
            all.append(x.reduced(i)).append(' ').append(x.node(i, 4)).append(' ');
        }
        all.append(x.value(0)).append(' ').append(x.value(1)).append(' ').append(x.third());
        return all.toString();
    }

    static void same(String what, String got, String want) {
        if (!got.equals(want)) {
            System.out.println("told now:\n" + got + "\ntold before:\n" + want);
        }
        isTrue(what, got.equals(want));
    }

    /** What the calls leave: grammar, acts, formula, tape, fault. */
    static void leavesAll(String what, Runnable calls) {
        String before = toldOfGrammar() + toldOfFormula() + x.fault();
        calls.run();
        same(what + " leaves all as it was", toldOfGrammar() + toldOfFormula() + x.fault(), before);
    }

    // ---- running

    /** Runs each test method by its name; one that throws is wrong and doesn't end the rest. */
    static void runAll(Class<?> tests) {
        TreeMap<String, Method> named = new TreeMap<>();
        for (Method m : tests.getDeclaredMethods()) {
            boolean isTest = m.getName().matches("(promise\\d+|term[IV]+)_\\w+");
            if (isTest && Modifier.isStatic(m.getModifiers()) && m.getParameterCount() == 0) {
                named.put(m.getName(), m);
            }
        }
        for (Method m : named.values()) {
            runOne(m);
        }
        isTrue("there are tests in " + tests, !named.isEmpty());
        System.out.println(named.size() + " tests");
        Checks.end();
    }

    private static void runOne(Method m) {
        Checks.begin(m.getName());
        try {
            m.setAccessible(true);
            m.invoke(null);
        } catch (InvocationTargetException e) {
            due("threw " + e.getCause(), 1, 0);
        } catch (IllegalAccessException e) {
            due("can't be run", 1, 0);
        }
        Checks.begin("");
    }
}
