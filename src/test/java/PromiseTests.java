import java.util.NoSuchElementException;

/** Each promise of the document by its number: what is ordinary, the edges, what is wrong. */
public final class PromiseTests {
    private static final int NONE = SignLadders.NONE;
    private static final int NO_NODE_ANSWER = Integer.MIN_VALUE;

    // + 0, * 1, ( 2, ) 3, value 4, END 5; e 0, t 1, f 2.
    private static final String SUMS =
            "desk mixed;rule e is e + t does add;rule e is t does same;rule t is t * f does times;"
            + "rule t is f does same;rule f is ( e ) does same;rule f is value does value";
    // / 0, ~ 1, ! 2, value 3, END 4.
    private static final String PARTS =
            "desk mixed;rule a is a / b does over;rule a is b does same;rule b is ~ b does minus;"
            + "rule b is ! b does whole;rule b is value does value";
    // + 0, value 1, END 2: + is both below and above itself.
    private static final String CLASHING =
            "desk mixed;rule e is e + e does add;rule e is value does value";
    // All nine deeds, eleven terminals, no clash.
    private static final String ALL_DEEDS =
            "desk mixed;rule s is s + t does add;rule s is s - t does less;rule s is t does same;"
            + "rule t is t * u does times;rule t is t / u does over;rule t is u does same;"
            + "rule u is ~ u does minus;rule u is [ s ] does whole;rule u is = u does real;"
            + "rule u is ( s ) does same;rule u is value does value";
    // - 0, * 1, / 2, + 3, value 4, END 5: no clash, but F of + is more than G of -, that more than
    // F of *, that more than G of /, that more than F of +.
    private static final String RINGED =
            "desk mixed;rule s is p - q does add;rule s is * m does same;rule s is n / q does over;"
            + "rule s is + k does same;rule p is q + does same;rule m is - q does same;"
            + "rule n is q * does same;rule k is / q does same;rule q is value does value";

    private static SignLadders x;

    private static void due(String what, long got, long want) {
        Checks.due(what, got, want);
    }

    private static void refused(String what, long got, int trouble) {
        due(what, got, NONE);
        due(what + ": trouble", x.trouble(), trouble);
    }

    private static void granted(String what, long got, long want) {
        due(what, got, want);
        due(what + ": trouble", x.trouble(), 0);
    }

    private static void stand(String text) {
        x = Checks.deskOf(text);
    }

    private static int say(String text, int how) {
        return Checks.formula(x, text, how);
    }

    public static void main(String[] args) {
        promise1();
        promise2();
        promise3();
        promise4();
        promise5();
        promises6To9();
        promises10To14();
        promise15();
        promises16To19();
        promises20And21();
        promise22();
        promise23();
        promises24To26();
        promises27And28();
        promises29And30();
        promises31To33();
        promise34();
        promise35();
        promise36();
        wholeTape();
        twelveRules();
        mixedActs();
        GrammarFaults.all();
        FormulaFails.all();
        Checks.end();
    }

    private static void promise1() {
        x = new SignLadders();
        due("new: trouble", x.trouble(), 0);
        due("new: fault", x.fault(), 0);
        due("new: where", x.where(), NONE);
        due("new: size 0", x.size(0), 0);
        due("new: size 1", x.size(1), 0);
        due("new: size 2", x.size(2), 0);
        for (int what = -1; what < 5; what++) {
            refused("new: about", x.about(what), 1);
        }
        refused("new: rule", x.rule(0, 0), 1);
        refused("new: clashes", x.clashes(), 1);
        refused("new: knotted", x.knotted(), 1);
        due("NONE", SignLadders.NONE, -1);
    }

    private static void promise2() {
        x = new SignLadders();
        for (int i = 1; i <= 45; i++) {
            due("feed", x.feed(0, 0, 0, 0, 0), 20 * i);
        }
        due("feed beyond 900", x.feed(1, 2, 3, 4, 5), NONE);
        due("feed beyond 900: none comes", x.size(0), 900);
        due("feed is no call with a number", x.trouble(), 0);
        refused("901 bytes", x.grammar(901), 2);
        refused("900 bytes of nothing", x.grammar(900), 4);
        due("the highest byte first", x.feed(0x6465736b, 0x20206d69, 0x7865643b, 0, 0), 20);
        x.grammar(12);
        due("desk  mixed; then the end: fault", x.fault(), 1);
        due("desk  mixed; then the end: where", x.where(), 12);
        due("feed keeps the trouble", x.feed(0, 0, 0, 0, 0) * 10L + x.trouble(), 204);
    }

    private static void promise3() {
        x = new SignLadders();
        granted("grammar", Checks.grammar(x, SUMS), 6);
        due("the tape is empty", x.size(0), 0);
        x.aside(0, 1);
        x.kind(1);
        say("1", 0);
        Checks.feed(x, "desk real;rule");
        refused("-1 bytes", x.grammar(-1), 2);
        refused("21 bytes", x.grammar(21), 2);
        due("the tape stays by 2", x.size(0), 20);
        due("no fault by 2", x.fault(), 0);
        refused("a fault", x.grammar(14), 4);
        due("the tape is empty by 4", x.size(0), 0);
        due("the grammar stays by 4: rules", x.about(1), 6);
        due("the grammar stays by 4: kind", x.about(0), 1);
        due("the grammar stays by 4: aside", x.size(2), 1);
        due("the grammar stays by 4: undo", x.size(1), 2);
        due("the grammar stays by 4: formula", x.read(1), 1);
        granted("another grammar", Checks.grammar(x, CLASHING), 2);
        due("no rule aside", x.size(2), 0);
        due("nothing to undo", x.size(1), 0);
        refused("no formula", x.read(0), 1);
        due("its kind", x.about(0), 0);
        Checks.feed(x, CLASHING + " nonsense");
        granted("only the first n bytes", x.grammar(CLASHING.length()), 2);
        due("what was behind them is gone", x.size(0), 0);
    }

    private static void promise4() {
        x = new SignLadders();
        due("fault without a grammar()", x.fault(), 0);
        Checks.grammar(x, "desk mixed;desk");
        due("fault", x.fault(), 6);
        x.grammar(1);
        due("fault of the latest not refused by 2", x.fault(), 6);
        x.about(0);
        due("fault stays", x.fault(), 6);
        Checks.grammar(x, SUMS);
        due("no fault", x.fault(), 0);
    }

    private static void promise5() {
        x = new SignLadders();
        Checks.grammar(x, "desk mixed;desk");
        due("where of a fault", x.where(), 11);
        due("where again", x.where(), 11);
        x.fault();
        x.size(0);
        x.feed(0, 0, 0, 0, 0);
        due("where behind calls that can't be refused", x.where(), 11);
        x.grammar(-1);
        due("where by 2", x.where(), NONE);
        Checks.grammar(x, SUMS);
        stand(SUMS);
        due("where by none", x.where(), NONE);
        say("1 + ", 0);
        due("where of what fails", x.where(), 4);
        x.read(0);
        due("where behind a call that wasn't refused", x.where(), NONE);
        x.otherwise();
        due("where of what fails otherwise", x.where(), 4);
    }

    private static void promises6To9() {
        stand("desk whole;rule abcdef is ( cc ) + value does minus;rule cc is cc - abcdef does less;"
                + "rule cc is value does value");
        granted("kind", x.about(0), 1);
        granted("rules", x.about(1), 3);
        granted("names", x.about(2), 2);
        granted("terminals", x.about(3), 5);
        refused("about 4", x.about(4), 1);
        refused("about -1", x.about(-1), 1);
        due("real", Checks.deskOf("desk real;rule a is value does value").about(0), 2);
        granted("head", x.rule(1, 0), 1);
        granted("items", x.rule(0, 1), 5);
        granted("deed minus", x.rule(0, 2), 4);
        granted("deed less", x.rule(1, 2), 1);
        granted("not aside", x.rule(2, 3), 0);
        x.aside(2, 1);
        granted("aside", x.rule(2, 3), 1);
        refused("rule 3", x.rule(3, 0), 1);
        refused("rule -1", x.rule(-1, 0), 1);
        refused("rule what 4", x.rule(0, 4), 1);
        refused("rule what -1", x.rule(0, -1), 1);
        int[] items = {0, 101, 1, 2, 3};
        for (int i = 0; i < 5; i++) {
            granted("item", x.item(0, i), items[i]);
        }
        granted("item of a name that came first", x.item(1, 2), 100);
        refused("item 5", x.item(0, 5), 1);
        refused("item -1", x.item(0, -1), 1);
        refused("item of rule 3", x.item(3, 0), 1);
        granted("sign (", x.sign(0), '(');
        granted("sign +", x.sign(2), '+');
        granted("sign of value", x.sign(3), 0);
        granted("sign -", x.sign(4), '-');
        granted("sign of END", x.sign(5), -2);
        refused("sign 6", x.sign(6), 1);
        refused("sign -1", x.sign(-1), 1);
        deedNumbers();
    }

    private static void deedNumbers() {
        String[] deeds = {"add", "less", "times", "over", "minus", "same", "whole", "real"};
        for (int i = 0; i < 8; i++) {
            String items = i < 4 ? "e + e" : "+ e";
            stand("desk mixed;rule e is " + items + " does " + deeds[i]);
            due("deed " + deeds[i], x.rule(0, 2), i);
        }
        stand("desk mixed;rule e is value does value");
        due("deed value", x.rule(0, 2), 8);
    }

    private static void promises10To14() {
        stand(SUMS);
        granted("lead of e", x.edge(0, 0), 0b10111);
        granted("trail of e", x.edge(0, 1), 0b11011);
        granted("lead of f", x.edge(2, 0), 0b10100);
        granted("trail of f", x.edge(2, 1), 0b11000);
        refused("edge of 3", x.edge(3, 0), 1);
        refused("edge of -1", x.edge(-1, 0), 1);
        refused("edge how 2", x.edge(0, 2), 1);
        granted("+ above +", x.relation(0, 0), 4);
        granted("+ below *", x.relation(0, 1), 1);
        granted("( like )", x.relation(2, 3), 2);
        granted(") and (", x.relation(3, 2), 0);
        granted("END below (", x.relation(5, 2), 1);
        granted("value above END", x.relation(4, 5), 4);
        granted("END and END", x.relation(5, 5), 0);
        refused("relation of 6", x.relation(6, 0), 1);
        refused("relation to -1", x.relation(0, -1), 1);
        granted("below", x.related(1), 13);
        granted("like", x.related(2), 1);
        granted("above", x.related(4), 15);
        for (int no : new int[] {0, 3, 5, 6, 7, 8, -1}) {
            refused("related " + no, x.related(no), 2);
        }
        granted("no clash", x.clashes(), 0);
        refused("clash 0 of none", x.clash(0), 1);
        x.aside(4, 1);
        granted("lead without a rule", x.edge(2, 0), 0b10000);
        granted("below without it", x.related(1), 6);
        granted("like without it", x.related(2), 0);
        clashing();
        x = new SignLadders();
        refused("related without a grammar, of no relation", x.related(3), 1);
    }

    private static void clashing() {
        stand(CLASHING);
        granted("a clash", x.clashes(), 1);
        granted("its sum", x.relation(0, 0), 5);
        granted("related counts it for each", x.related(1) * 10 + x.related(4), 44);
        // ~ 0: ~ e ~ puts ~ below, like and above itself; value 1 is neither.
        stand("desk mixed;rule e is ~ e ~ does same;rule e is value does value");
        granted("all three", x.relation(0, 0), 7);
        granted("value above ~", x.relation(1, 0), 4);
        // a 0 is + b, - a: - 1 below +; b 1 is a * value ...
        stand("desk mixed;rule a is a + a does add;rule a is a * a does times;"
                + "rule a is value does value");
        granted("four clashes", x.clashes(), 4);
        granted("by x", x.clash(0), 0);
        granted("then by y", x.clash(1), 1);
        granted("16 times x", x.clash(2), 16);
        granted("the last", x.clash(3), 17);
        refused("clash 4", x.clash(4), 1);
        refused("clash -1", x.clash(-1), 1);
    }

    private static void promise15() {
        stand("desk mixed;rule a is a + b does add;rule b is b + a does less;rule a is b does same;"
                + "rule b is a does minus;rule b is value does value;rule a is value does value;"
                + "rule a is ( a + b does times;rule a is + b does minus");
        granted("doubles", x.doubles(), 0b100010);
        x.aside(0, 1);
        granted("of one aside there is no double", x.doubles(), 0b100000);
        x.aside(5, 1);
        granted("one aside is none", x.doubles(), 0);
        x = new SignLadders();
        refused("doubles without a grammar", x.doubles(), 1);
    }

    private static void promises16To19() {
        stand(SUMS);
        int[] f = {2, 4, 0, 4, 4, 0};
        int[] g = {1, 3, 5, 0, 5, 0};
        for (int t = 0; t <= 5; t++) {
            granted("F of " + t, x.function(t, 0), f[t]);
            granted("G of " + t, x.function(t, 1), g[t]);
        }
        refused("function of 6", x.function(6, 0), 1);
        refused("function of -1", x.function(-1, 0), 1);
        refused("function what 2", x.function(0, 2), 1);
        granted("highest", x.highest(), 5);
        granted("hidden below", x.hidden(1), 4);
        granted("hidden like", x.hidden(2), 3);
        granted("hidden above", x.hidden(4), 0);
        refused("hidden 3", x.hidden(3), 2);
        granted("knots", x.knotted(), 11);
        for (int r = 0; r < 6; r++) {
            x.aside(r, 1);
        }
        granted("highest without arcs", x.highest(), 0);
        granted("all are like by numbers", x.hidden(2), 36);
        granted("knots without rules", x.knotted(), 12);
        stand(CLASHING);
        refused("function with a ring", x.function(0, 0), 5);
        refused("function of none such comes first", x.function(3, 0), 1);
        refused("highest with a ring", x.highest(), 5);
        refused("hidden with a ring", x.hidden(1), 5);
        refused("hidden 3 with a ring", x.hidden(3), 2);
        granted("knots with a ring", x.knotted(), 6);
        x = new SignLadders();
        refused("function without a grammar", x.function(0, 0), 1);
        refused("highest without a grammar", x.highest(), 1);
        refused("hidden 3 without a grammar", x.hidden(3), 1);
    }

    private static void promises20And21() {
        stand(SUMS);
        granted("no ring", x.ring(), 0);
        refused("its first", x.ringAt(0), 1);
        stand(CLASHING);
        granted("a ring", x.ring(), 2);
        granted("F of +", x.ringAt(0), 0);
        granted("G of +", x.ringAt(1), 16);
        refused("ringAt 2", x.ringAt(2), 1);
        refused("ringAt -1", x.ringAt(-1), 1);
        // ~ like ~ ties F and G of ~ to one knot; ~ below ~ leads from it to itself.
        stand("desk mixed;rule e is ~ e ~ does same;rule e is value does value");
        granted("a ring of one knot", x.ring(), 1);
        granted("the knot", x.ringAt(0), 0);
        longRing();
        x = new SignLadders();
        refused("ring without a grammar", x.ring(), 1);
        refused("ringAt without a grammar", x.ringAt(0), 1);
    }

    private static void longRing() {
        stand(RINGED);
        due("no clash", x.clashes(), 0);
        int[] ring = {1, 18, 3, 16};
        granted("a ring of four", x.ring(), 4);
        for (int i = 0; i < 4; i++) {
            granted("its knots, from the least on", x.ringAt(i), ring[i]);
        }
        x.aside(0, 1);
        granted("without the rule of p - q it is open", x.ring(), 0);
        granted("and there are numbers", x.function(3, 1) > 0 ? 1 : 0, 1);
        // Each sign is below and above each: of the two ways back that of the least next knot.
        stand("desk mixed;rule a is a + a does add;rule a is a * a does times;"
                + "rule a is value does value");
        granted("the shortest", x.ring(), 2);
        granted("from the least", x.ringAt(0), 0);
        granted("by the least next", x.ringAt(1), 16);
    }

    private static void promise22() {
        x = new SignLadders();
        refused("formula without a grammar", x.formula(-1, 7), 1);
        stand(SUMS);
        granted("by relations", say("1 + 2 * 3", 0), 10);
        due("the tape is empty", x.size(0), 0);
        granted("by functions", say("(1+2)", 1), 9);
        Checks.feed(x, "1 + 2");
        refused("how 2", x.formula(99, 2), 1);
        refused("how -1", x.formula(1, -1), 1);
        refused("n 21", x.formula(21, 0), 2);
        refused("n -1", x.formula(-1, 0), 2);
        due("the tape stays", x.size(0), 20);
        due("the formula stays", x.read(1), 5);
        granted("the first byte alone", x.formula(1, 0), 2);
        due("the rest is gone", x.size(0), 0);
        refused("it fails", say("1 +", 0), 6);
        due("it is the formula all the same", x.read(1), 2);
        due("the tape is empty though it fails", x.size(0), 0);
        stand(CLASHING);
        Checks.feed(x, "1");
        refused("clashes", x.formula(1, 0), 5);
        refused("no functions", x.formula(1, 1), 5);
        refused("n comes ahead of clashes", x.formula(21, 0), 2);
        due("the tape stays by 5", x.size(0), 20);
        refused("there is no formula", x.read(0), 1);
        x.aside(0, 1);
        granted("without the rule that clashes", x.formula(1, 0), 2);
        stand(RINGED);
        granted("no clash: by relations", say("* - 5", 0), 6);
        due("its value", x.value(1), 5);
        Checks.feed(x, "5");
        refused("a ring: not by functions", x.formula(1, 1), 5);
        due("the formula stays by 5", x.read(1), 3);
    }

    private static void promise23() {
        stand(SUMS);
        refused("read without a formula", x.read(0), 1);
        say("1 + 2 * (3)", 0);
        granted("fails", x.read(0), 0);
        granted("tokens", x.read(1), 7);
        granted("steps", x.read(2), 13);
        granted("reduced", x.read(3), 6);
        granted("most on the stack", x.read(4), 4);
        refused("read 5", x.read(5), 1);
        refused("read -1", x.read(-1), 1);
        say("1 + 2 ( 3", 0);
        granted("what fails", x.read(0), 3);
        granted("tokens of what fails", x.read(1), 5);
        granted("steps of what fails", x.read(2), 4);
        granted("reduced of what fails", x.read(3), 1);
        granted("most of what fails", x.read(4), 2);
        say("1 + 2 ?", 0);
        granted("no token", x.read(0), 1);
        granted("no tokens", x.read(1), 0);
        granted("no steps", x.read(2), 0);
        granted("none reduced", x.read(3), 0);
        granted("none on the stack", x.read(4), 0);
        x.kind(0);
        refused("the formula is gone", x.read(0), 1);
    }

    private static void promises24To26() {
        stand(PARTS);
        refused("reduced without a formula", x.reduced(0), 1);
        due("node without a formula", x.node(0, 0), NO_NODE_ANSWER);
        refused("under without a formula", x.under(0, 0), 1);
        // 8 node 0; 2.5 node 1; ! 2; ~ 3; / 4; 2 node 5; / 6.
        granted("8 / ~!2.5 / 2", say("8 / ~!2.5 / 2", 0), 14);
        int[] rules = {4, 4, 3, 2, 0, 4, 0};
        for (int i = 0; i < 7; i++) {
            granted("reduced", x.reduced(i), rules[i]);
        }
        refused("reduced 7", x.reduced(7), 1);
        refused("reduced -1", x.reduced(-1), 1);
        int[][] nodes = {
            {-2, -2, 1, 0, 8}, {-2, -2, 1, 1, Float.floatToIntBits(2.5f)}, {1, -2, 2, 0, 2},
            {2, -2, 3, 0, -2}, {0, 3, 4, 0, -4}, {-2, -2, 1, 0, 2}, {4, 5, 5, 0, -2}};
        for (int i = 0; i < 7; i++) {
            for (int what = 0; what < 5; what++) {
                granted("node " + i + " " + what, x.node(i, what), nodes[i][what]);
            }
        }
        for (int[] no : new int[][] {{7, 0}, {-1, 0}, {0, 5}, {0, -1}}) {
            due("no node", x.node(no[0], no[1]), NO_NODE_ANSWER);
            due("no node: trouble", x.trouble(), 1);
        }
        int[] under = {6, 4, 0, 3, 2, 1, 5};
        for (int i = 0; i < 7; i++) {
            granted("under", x.under(6, i), under[i]);
        }
        granted("under one of them", x.under(3, 2), 1);
        granted("under one alone", x.under(5, 0), 5);
        refused("under too far", x.under(6, 7), 1);
        refused("under too far in one", x.under(3, 3), 1);
        refused("under before", x.under(6, -1), 1);
        refused("under node 7", x.under(7, 0), 1);
        refused("under node -1", x.under(-1, 0), 1);
        refused("what fails", say("1 / 0 / 3", 0), 6);
        granted("its nodes are told all the same", x.reduced(1), 4);
        refused("a step that fails makes none", x.reduced(2), 1);
    }

    private static void values(String text, Number want) {
        boolean real = want instanceof Float;
        int bits = real ? Float.floatToIntBits((Float) want) : want.intValue();
        due(text + ": steps", say(text, 0) > 0 ? 1 : 0, 1);
        granted(text + ": real", x.value(0), real ? 1 : 0);
        granted(text + ": bits", x.value(1), bits);
        granted(text + ": as an int", x.value(2), want.intValue());
        granted(text + ": third", x.third(), Double.doubleToLongBits(want.doubleValue() / 3));
    }

    private static void promises27And28() {
        stand(ALL_DEEDS);
        due("value without a formula", x.value(0), Integer.MIN_VALUE);
        due("value without a formula: trouble", x.trouble(), 1);
        due("third without a formula", x.third(), Long.MIN_VALUE);
        due("third without a formula: trouble", x.trouble(), 1);
        values("7", 7);
        values("~7 / 2", -3);
        values("7 - 9", -2);
        values("9999*9999*9999*9999", 9999 * 9999 * 9999 * 9999);
        values("~(9999*9999*22-9999-9999*40)", -(9999 * 9999 * 22 - 9999 - 9999 * 40));
        values("7 / 2.0", 3.5f);
        values("1.5 + 2", 3.5f);
        values("0.1 + 0.2", 0.1f + 0.2f);
        values("9999.999", 9999999 / 1000f);
        values("1.23", 123 / 100f);
        values("[2.9]", 2);
        values("[~2.9]", -2);
        values("=3", 3f);
        values("=2.5", 2.5f);
        values("0", 0);
        values("~0", 0);
        values("0.0", 0f);
        values("~0.0", -0f);
        values("~0.0+0.0", 0f);
        values("~0.0-0.0", -0f);
        values("0.0*~3", -0f);
        values("1.0/0", Float.POSITIVE_INFINITY);
        values("~1/0.0", Float.NEGATIVE_INFINITY);
        values("0.0/0", Float.NaN);
        values("~(0.0/0)", Float.NaN);
        values("[0/0.0]", 0);
        values("[1/0.0]", Integer.MAX_VALUE);
        values("[~1/0.0]", Integer.MIN_VALUE);
        values("1/0.0-1/0.0", Float.NaN);
        values("1/(1/0.0)", 0f);
        chains();
        due("value 3", x.value(3), Integer.MIN_VALUE);
        due("value -1", x.value(-1), Integer.MIN_VALUE);
        due("value -1: trouble", x.trouble(), 1);
        say("1/0", 0);
        due("value of what failed", x.value(0), Integer.MIN_VALUE);
        due("third of what failed", x.third(), Long.MIN_VALUE);
    }

    private static void chains() {
        StringBuilder great = new StringBuilder("1.0");
        StringBuilder small = new StringBuilder("1.0");
        StringBuilder down = new StringBuilder("~1.7");
        float g = 1f;
        float s = 1f;
        float d = -1.7f;
        for (int i = 0; i < 28; i++) {
            stand(ALL_DEEDS);
            great.append("*97.9");
            g *= 979 / 10f;
            small.append("*0.037");
            s *= 37 / 1000f;
            down.append("/41.3");
            d /= 413 / 10f;
            values(great.toString(), g);
            values(small.toString(), s);
            values(down.toString(), d);
        }
    }

    private static void promises29And30() {
        stand(SUMS);
        refused("otherwise without a formula", x.otherwise(), 1);
        refused("later without a formula", x.later(), 1);
        say("1 + 2 * 3", 0);
        granted("otherwise", x.otherwise(), 10);
        granted("later", x.later(), 0);
        // By relations ) isn't next behind END; by functions it is like END: none either way.
        // 1 2: value and value have no relation, by functions the first is below: 2 comes on, is
        // reduced, and no rule has a value with a value behind it.
        refused("1 2 by relations", say("1 2", 0), 6);
        due("1 2 by relations: where", x.where(), 2);
        due("1 2 by relations: steps", x.read(2), 1);
        granted("1 2 later", x.later(), 2);
        refused("1 2 otherwise", x.otherwise(), 6);
        due("1 2 otherwise: where", x.where(), 3);
        granted("kept is what was: fails", x.read(0), 3);
        granted("kept is what was: steps", x.read(2), 1);
        granted("kept is what was: reduced", x.read(3), 0);
        refused("1 2 by functions", say("1 2", 1), 6);
        granted("1 2 by functions: fails", x.read(0), 4);
        granted("1 2 by functions: later", x.later(), 2);
        refused("1 2 by functions: otherwise", x.otherwise(), 6);
        due("1 2 by functions: where otherwise", x.where(), 2);
        granted("kept is what was", x.read(2), 3);
        refused("no token", say("1 $", 1), 6);
        refused("no token otherwise", x.otherwise(), 6);
        due("no token otherwise: where", x.where(), 2);
        granted("no token later", x.later(), 0);
        ringWithoutClash();
    }

    private static void ringWithoutClash() {
        stand(RINGED);
        say("* - 5", 0);
        refused("no functions for otherwise", x.otherwise(), 5);
        refused("no functions for later", x.later(), 5);
    }

    private static void promises31To33() {
        x = new SignLadders();
        refused("aside without a grammar", x.aside(0, 9), 1);
        refused("kind without a grammar", x.kind(9), 1);
        due("undo without a grammar", x.undo() ? 1 : 0, 0);
        due("undo without a grammar: trouble", x.trouble(), 1);
        stand(SUMS);
        due("undo of nothing", x.undo() ? 1 : 0, 0);
        refused("aside 6", x.aside(6, 1), 1);
        refused("aside -1", x.aside(-1, 1), 1);
        refused("aside by 2", x.aside(0, 2), 2);
        refused("aside by -1", x.aside(0, -1), 2);
        refused("it is so", x.aside(0, 0), 5);
        say("1", 0);
        refused("refused: the formula stays", x.aside(0, 0), 5);
        due("the formula stays", x.read(0), 0);
        granted("aside", x.aside(0, 1), 1);
        refused("the formula is gone", x.read(0), 1);
        granted("one more", x.aside(5, 1), 2);
        refused("it is so, too", x.aside(5, 1), 5);
        granted("no more", x.aside(0, 0), 1);
        refused("kind 3", x.kind(3), 2);
        refused("kind -1", x.kind(-1), 2);
        granted("kind", x.kind(2), 0);
        granted("the same kind, too", x.kind(2), 2);
        due("what can be undone", x.size(1), 5);
        Checks.feed(x, "");
        x.formula(0, 0);
        granted("undo", x.undo() ? 1 : 0, 1);
        refused("no formula either", x.read(0), 1);
        due("kind behind undo", x.about(0), 2);
        x.undo();
        due("kind as it was", x.about(0), 0);
        x.undo();
        due("rule 0 aside again", x.rule(0, 3), 1);
        x.undo();
        due("rule 5 no more", x.rule(5, 3), 0);
        due("its relations are back", x.relation(4, 5), 4);
        x.undo();
        due("rule 0 no more", x.rule(0, 3), 0);
        due("nothing left", x.undo() ? 1 : 0, 0);
        tenAreKept();
    }

    private static void tenAreKept() {
        stand(SUMS);
        for (int i = 0; i < 12; i++) {
            x.kind((i + 1) % 3);
            due("undoable", x.size(1), Math.min(10, i + 1));
        }
        for (int i = 11; i >= 2; i--) {
            due("undo", x.undo() ? 1 : 0, 1);
            due("kind", x.about(0), i % 3);
        }
        due("the eleventh", x.undo() ? 1 : 0, 0);
        due("kind stays", x.about(0), 2);
        due("nothing to undo", x.size(1), 0);
    }

    private static int barren(int i) {
        try {
            return x.barren(i);
        } catch (NoSuchElementException e) {
            return -100;
        }
    }

    private static void promise34() {
        x = new SignLadders();
        due("barren without a grammar", barren(0), -100);
        stand(SUMS);
        due("none barren", barren(0), -100);
        x.aside(4, 1);
        due("f has another rule", barren(0), -100);
        x.aside(5, 1);
        due("f is barren", barren(0), 2);
        x.aside(0, 1);
        x.aside(1, 1);
        due("e is barren", barren(0), 0);
        due("then f", barren(1), 2);
        due("no third", barren(2), -100);
        due("barren -1", barren(-1), -100);
        refused("barren leaves the trouble", x.about(9), 1);
        barren(7);
        due("the trouble is left", x.trouble(), 1);
    }

    private static void promise35() {
        stand(SUMS);
        Checks.feed(x, "1");
        x.aside(1, 1);
        x.aside(2, 1);
        x.aside(1, 0);
        due("bytes", x.size(0), 20);
        due("undoable", x.size(1), 3);
        due("aside", x.size(2), 1);
        due("size 3", x.size(3), NONE);
        due("size -1", x.size(-1), NONE);
        due("size is no call with a number", x.trouble(), 0);
    }

    private static void promise36() {
        x = new SignLadders();
        due("none yet", x.trouble(), 0);
        refused("1", x.about(0), 1);
        due("asked again", x.trouble(), 1);
        refused("2", x.grammar(1), 2);
        refused("4", x.grammar(0), 4);
        stand(CLASHING);
        granted("0", x.about(0), 0);
        refused("5", x.highest(), 5);
        stand(SUMS);
        refused("6", say("+", 0), 6);
        x.fault();
        x.where();
        x.size(9);
        x.feed(0, 0, 0, 0, 0);
        due("calls without a number leave it", x.trouble(), 6);
        due("undo has one", x.undo() ? 1 : 0, 0);
        due("undo's", x.trouble(), 1);
    }

    private static void wholeTape() {
        x = new SignLadders();
        String end = ";rule zz is value does value";
        String text = "desk mixed" + " ".repeat(900 - 10 - end.length()) + end;
        Checks.feed(x, text);
        granted("a grammar of 900 bytes", x.grammar(900), 1);
        Checks.feed(x, " ".repeat(898) + "12");
        granted("a formula of 900 bytes", x.formula(900, 0), 2);
        due("its value", x.value(1), 12);
        Checks.feed(x, "12");
        granted("the first byte of two digits", x.formula(1, 0), 2);
        due("its value, too", x.value(1), 1);
        Checks.feed(x, "1.25");
        granted("the first three bytes of a real", x.formula(3, 0), 2);
        due("bits of 1.2", x.value(1), Float.floatToIntBits(1.2f));
    }

    private static void twelveRules() {
        StringBuilder eleven = new StringBuilder("desk mixed");
        for (int i = 0; i < 11; i++) {
            eleven.append(";rule e is value does value");
        }
        GrammarFaults.at(5, eleven + ";rule e is + f does same@");
        stand(eleven + ";rule e is + e does minus");
        due("the twelfth rule", say("+ 5", 0) * 10L + x.reduced(1), 40 + 11);
        refused("no rule of twelve", say("+", 0), 6);
        due("no rule of twelve: fails", x.read(0), 4);
        due("doubles of twelve", x.doubles(), 0b11111111110);
        for (int r = 0; r < 11; r++) {
            due("aside", x.aside(r, 1), r + 1);
        }
        granted("another grammar", Checks.grammar(x, PARTS), 5);
        for (int r = 0; r < 5; r++) {
            due("no rule of it is aside", x.rule(r, 3), 0);
        }
    }

    private static void mixedActs() {
        stand(SUMS);
        x.aside(0, 1);
        x.kind(1);
        for (int r = 1; r < 6; r++) {
            x.aside(r, 1);
            x.kind(r % 3);
        }
        due("ten are kept", x.size(1), 10);
        for (int r = 5; r > 0; r--) {
            due("kind", x.about(0), r % 3);
            x.undo();
            due("kind back", x.about(0), r == 1 ? 1 : (r - 1) % 3);
            due("aside still", x.rule(r, 3), 1);
            x.undo();
            due("no more aside", x.rule(r, 3), 0);
        }
        due("the first two acts are not kept", x.undo() ? 1 : 0, 0);
        due("rule 0 is aside", x.rule(0, 3), 1);
        due("the desk is whole", x.about(0), 1);
    }

    /** Faults 1 to 6 with their places. */
    private static final class GrammarFaults {
        static void fault(String text, int number, int place) {
            x = new SignLadders();
            Checks.feed(x, text);
            due("fault of '" + text + "'", x.grammar(text.length()), NONE);
            due("number of '" + text + "'", x.fault(), number);
            due("place of '" + text + "'", x.where(), place);
        }

        /** The text goes wrong at the sign @, which isn't part of it. */
        static void at(int number, String text) {
            fault(text.replace("@", ""), number, text.indexOf('@'));
        }

        static void all() {
            form();
            at(2, "desk mixed;rule e is e does @add");
            at(2, "desk mixed;rule e is e + e + e does @add");
            at(2, "desk mixed;rule e is e + e does @same");
            at(2, "desk mixed;rule e is + does @real");
            at(2, "desk mixed;rule e is value value does @value");
            at(2, "desk mixed;rule e is + does @value");
            at(2, "desk mixed;rule e is e does @value");
            at(2, "desk mixed;rule e is value does @minus;rule");
            at(3, "desk mixed;rule e is e @e");
            at(3, "desk mixed;rule e is + e @t does add");
            at(3, "desk mixed;rule a is + b + c @d does add");
            many();
            at(5, "@rule");
            at(5, "@rule e is value does value;desk mixed");
            at(5, "desk mixed@");
            at(5, "desk mixed   @");
            at(5, "desk mixed;rule e is t does same@");
            at(5, "desk mixed;rule e is + t does same;rule e is value does value  @");
            at(6, "desk mixed;@desk mixed");
            at(6, "desk mixed;rule e is value does value;@desk");
            at(6, "desk mixed;@desk ?");
        }

        static void form() {
            at(1, "@");
            at(1, "   @");
            at(1, "@desks mixed");
            at(1, "@; desk mixed");
            at(1, "desk@");
            at(1, "desk @whol");
            at(1, "desk @;");
            at(1, "desk mixed @mixed");
            at(1, "desk mixed;@");
            at(1, "desk mixed;@;rule");
            at(1, "desk mixed;@?");
            at(1, "desk mixed;@value");
            at(1, "desk mixed;rule @desk");
            at(1, "desk mixed;rule @value is");
            at(1, "desk mixed;rule @+ is");
            at(1, "desk mixed;rule e @e");
            at(1, "desk mixed;rule e is @does same");
            at(1, "desk mixed;rule e is @;");
            at(1, "desk mixed;rule e is e @is");
            at(1, "desk mixed;rule e is e @; does");
            at(1, "desk mixed;rule e is e does @e");
            at(1, "desk mixed;rule e is e does @;");
            at(1, "desk mixed;rule e is e does@");
            at(1, "desk mixed;rule e is e does same @same");
            at(1, "desk mixed;rule e is e does same @rule");
            at(1, "desk mixed;rule @abcdefg is");
            at(1, "@deskmixed");
            at(1, "desk mixed;rule e is @Abc");
            at(1, "desk mixed;rule e is e@1");
            at(1, "desk mixed;rule e is @\u0000");
            at(1, "desk mixed;rule e is @\u00e9");
            at(1, "desk mixed;rule e is + @\t e does same");
        }

        static void many() {
            at(4, "desk mixed;rule e is + + + + + @+");
            at(4, "desk mixed;rule e is + + + + + @e does same");
            at(3, "desk mixed;rule e is + + + + e @e does same");
            at(4, "desk mixed;rule a is b + c does add;rule d is e + f does add;rule @g is");
            at(4, "desk mixed;rule a is b + c does add;rule d is e + f does add;rule a is + @g");
            at(3, "desk mixed;rule a is b + c does add;rule d is e + f does add;rule a is a @g");
            at(4, elevenTerminals() + ";rule a is a @|");
            at(4, elevenTerminals() + ";rule a is a @value");
            x = new SignLadders();
            due("eleven terminals", Checks.grammar(x, elevenTerminals()), 3);
            due("eleven terminals: how many", x.about(3), 11);
            due("END behind them", x.sign(11), -2);
            StringBuilder twelve = new StringBuilder("desk mixed");
            for (int i = 0; i < 12; i++) {
                twelve.append(";rule e is value does value");
            }
            due("twelve rules", Checks.grammar(x, twelve.toString()), 12);
            at(4, twelve + ";@rule");
            at(4, twelve + ";@rule desk");
            x = new SignLadders();
            due("six names", Checks.grammar(x, "desk mixed;rule a is b + c does add;"
                    + "rule b is d + e does add;rule c is f does same;rule d is value does value;"
                    + "rule e is value does value;rule f is value does value"), 6);
            due("six names: how many", x.about(2), 6);
            x = new SignLadders();
            due("blanks mean nothing else", Checks.grammar(x,
                    "  desk   real  ;  rule a is(a)does same;rule a is value does value  "), 2);
            due("words of the deeds may be names", Checks.grammar(x,
                    "desk mixed;rule add is mixed + add does add;rule mixed is value does value"), 2);
        }

        static String elevenTerminals() {
            return "desk mixed;rule a is + - * / a does same;rule a is ^ ( ) [ a does same;"
                    + "rule a is ] ! ~ a does same";
        }
    }

    /** Fails 1 to 7 with their places. */
    private static final class FormulaFails {
        static void at(int number, String text) {
            int place = text.indexOf('@');
            String bare = text.replace("@", "");
            for (int how = 0; how < 2; how++) {
                due("'" + text + "' by " + how, say(bare, how), NONE);
                due("'" + text + "' by " + how + ": trouble", x.trouble(), 6);
                due("'" + text + "' by " + how + ": where", x.where(), place);
                due("'" + text + "' by " + how + ": fails", x.read(0), number);
            }
        }

        static void all() {
            stand(ALL_DEEDS);
            noToken();
            at(2, "1 + 2 @^ 3");
            at(2, "@|");
            at(1, "1 | @a");
            at(3, "@)");
            at(4, "1 + @)");
            at(4, "@");
            at(4, "   @");
            at(4, "1 +@");
            at(4, "1 + @+ 2");
            at(4, "[]@");
            at(6, "1 / 0@");
            at(6, "1 / 0 @+ 2");
            at(6, "(1 / 0 @)");
            deep();
            kinds();
            operandsUnknown();
        }

        static void noToken() {
            at(1, "@a");
            at(1, "1 + @12345");
            at(1, "1 + @12.");
            at(1, "1 + @1.2345");
            at(1, "1 + @12345.1");
            at(1, "@12.+3");
            at(1, "@.5");
            at(1, "1.2@.3");
            at(1, "@1..2");
            at(1, "1 @; 2");
            at(1, "1 @\u0000");
            at(1, "^ 1 @$");
            StringBuilder sixty = new StringBuilder("~1");
            for (int i = 0; i < 29; i++) {
                sixty.append("+1");
            }
            due("sixty tokens", say(sixty.toString(), 0), 120);
            due("sixty tokens: how many", x.read(1), 60);
            due("sixty tokens: value", x.value(1), 28);
            at(1, sixty + "@+");
            at(1, sixty + " @+ $");
            at(1, sixty + " @$ +");
        }

        static void deep() {
            due("fifteen", say("(".repeat(14) + "1" + ")".repeat(14), 0), 44);
            due("fifteen: most", x.read(4), 15);
            at(7, "(".repeat(15) + "@1" + ")".repeat(15));
            due("sixteen: steps", x.read(2), 15);
            due("sixteen: most", x.read(4), 15);
        }

        static void kinds() {
            x.kind(1);
            at(5, "1.5 @+ 2");
            at(5, "1 + 1.5@");
            at(6, "1 / 0@");
            at(5, "=1@");
            due("a whole desk keeps wholes", say("7/2", 0), 6);
            x.kind(2);
            at(5, "1 @+ 1.5");
            at(5, "[1.5]@");
            due("a real desk keeps reals", say("1.5 + 2.5", 1), 6);
            due("a step that fails isn't counted", say("1.5 + 2", 1) * 10L + x.read(2), -10 + 4);
            x.kind(0);
        }

        static void operandsUnknown() {
            stand("desk mixed;rule a is + a does same");
            at(2, "+ @1");
            due("value isn't a terminal", x.read(2), 1);
        }
    }
}
