import java.lang.reflect.Method;

/** Promises 1 to 36: the last input that is taken, the first that is not, what a refusal leaves. */
public final class PromiseEdgesTests extends Bench {
    private static final String TWELVE_RULES = rules(11, VALUE_RULE) + ";rule e is + e does minus";
    /** + - * / ^ ( ) [ ] ! 0 to 9, value 10, END 11. */
    private static final String ELEVEN_TERMINALS =
            "desk mixed;rule a is + - * / a does same;rule a is ^ ( ) [ a does same;"
            + "rule a is ] ! a does same;rule a is value does value";
    /** a 0 .. f 5. */
    private static final String SIX_NAMES =
            "desk mixed;rule a is b + c does add;rule b is d + e does add;rule c is f does same;"
            + "rule d is value does value;rule e is value does value;rule f is value does value";

    public static void main(String[] args) {
        for (int n = 1; n <= 36; n++) {
            boolean has = false;
            for (Method m : PromiseEdgesTests.class.getDeclaredMethods()) {
                has = has || m.getName().startsWith("promise" + n + "_");
            }
            isTrue("promise " + n + " has a test", has);
        }
        runAll(PromiseEdgesTests.class);
    }

    // ---- 1: a new object

    static void promise1_noGrammar() {
        fresh();
        due("trouble", x.trouble(), 0);
        due("fault", x.fault(), 0);
        due("where", x.where(), NONE);
        for (int what = 0; what < 3; what++) {
            due("size " + what, x.size(what), 0);
        }
        due("barren", barren(0), THROWN);
        for (int what = 0; what < 4; what++) {
            refused("about " + what, x.about(what), 1);
        }
        refused("edge", x.edge(0, 0), 1);
        refused("END alone", x.sign(0), 1);
        refused("END and END", x.relation(0, 0), 1);
        refused("clashes", x.clashes(), 1);
        refused("doubles", x.doubles(), 1);
        refused("knots", x.knotted(), 1);
        refused("the greatest", x.highest(), 1);
        refused("ring", x.ring(), 1);
        refused("the empty formula", x.formula(0, 0), 1);
        refused("undo", x.undo() ? 1 : 0, 0, 1);
    }

    static void promise1_oneObjectLeavesAnotherAlone() {
        stand(SUMS);
        say("1+2", 0);
        SignLadders first = x;
        stand(CLASHING);
        x.kind(2);
        feed("1");
        refused("the second has a ring", x.formula(1, 1), 5);
        x = first;
        granted("the first has none", x.ring(), 0);
        granted("its formula", x.value(1), 3);
        granted("its kind", x.about(0), 0);
        due("its tape", x.size(0), 0);
    }

    static void promise1_512CallsAreAnswered() {
        for (int last = 0; last < 3; last++) {
            stand(SUMS);
            int calls = (SUMS.length() + 19) / 20 + 1;
            for (; calls < 511; calls++) {
                due("call " + (calls + 1), x.kind((calls + 1) % 3) >= 0 ? 1 : 0, 1);
            }
            if (last == 0) {
                due("the 512th tells the kind", x.about(0), 511 % 3);
            } else if (last == 1) {
                due("the 512th tells the acts", x.size(1), 10);
            } else {
                isTrue("the 512th undoes", x.undo());
            }
        }
    }

    // ---- 2: feed

    static void promise2_upTo900Bytes() {
        fresh();
        for (int i = 1; i <= 45; i++) {
            due("feed " + i, x.feed(0, 0, 0, 0, 0), 20 * i);
            due("bytes " + i, x.size(0), 20 * i);
        }
        due("901 to 920", x.feed(1, 2, 3, 4, 5), NONE);
        due("none comes", x.size(0), 900);
        due("again", x.feed(1, 2, 3, 4, 5), NONE);
        due("none comes, again", x.size(0), 900);
        due("no trouble", x.trouble(), 0);
    }

    static void promise2_refusedItLeavesTheBytes() {
        fresh();
        feed(spread("desk mixed", ";" + VALUE_RULE, 900));
        due("full", x.feed(0x3f3f3f3f, 0x3f3f3f3f, 0x3f3f3f3f, 0x3f3f3f3f, 0x3f3f3f3f), NONE);
        granted("the bytes are as fed", x.grammar(900), 1);
        due("there is room again", x.feed(0, 0, 0, 0, 0), 20);
    }

    static void promise2_theHighestByteFirst() {
        fresh();
        // "desk mixed;rule e is" and " value does value   ".
        due("twenty", x.feed(0x6465736b, 0x206d6978, 0x65643b72, 0x756c6520, 0x65206973), 20);
        due("forty", x.feed(0x2076616c, 0x75652064, 0x6f657320, 0x76616c75, 0x65202020), 40);
        granted("in order", x.grammar(37), 1);
        due("high bits", x.feed(0x202020ff, 0x80808080, 0, 0, 0), 20);
        due("high bits: refused", x.grammar(20), NONE);
        due("high bits: where", x.where(), 3);
        due("a byte of the fifth number", x.feed(0x20202020, 0x20202020, 0x20202020, 0x20202020,
                0x2020203f), 20);
        due("the fifth: refused", x.grammar(20), NONE);
        due("the fifth: where", x.where(), 19);
        for (int i = 0; i < 20; i++) {
            int[] five = {0x20202020, 0x20202020, 0x20202020, 0x20202020, 0x20202020};
            five[i / 4] ^= 0xa0 << 24 - 8 * (i % 4);
            x.feed(five[0], five[1], five[2], five[3], five[4]);
            x.grammar(20);
            due("byte " + i, x.where(), i);
        }
    }

    static void promise2_behindWhatTheTapeHas() {
        stand(SUMS);
        feed("12 + ");
        due("behind it", x.feed(0x33342020, 0x20202020, 0x20202020, 0x20202020, 0x20202020), 40);
        granted("both", x.formula(40, 0), 6);
        granted("their sum", x.value(1), 46);
        due("behind an empty one", x.feed(0, 0, 0, 0, 0), 20);
    }

    // ---- 3: grammar

    static void promise3_nUpToTheTape() {
        stand(SUMS);
        for (int n : WILD) {
            refused("n " + n, x.grammar(n), 2);
        }
        refused("1 of 0", x.grammar(1), 2);
        due("0 of 0", x.grammar(0), NONE);
        due("0 of 0: trouble", x.trouble(), 4);
        due("0 of 0: where", x.where(), 0);
        String twenty = "desk mixed; " + VALUE_RULE + "  ";
        due("forty bytes", twenty.length(), 40);
        feed(twenty);
        refused("41 of 40", x.grammar(41), 2);
        granted("40 of 40", x.grammar(40), 1);
    }

    static void promise3_theTapeStaysBy2() {
        stand(SUMS);
        feed(CLASHING);
        leavesAll("by 2", () -> {
            refused("81 of 80", x.grammar(81), 2);
            refused("-1", x.grammar(-1), 2);
        });
        due("the tape stays", x.size(0), 80);
        granted("its bytes, too", x.grammar(CLASHING.length()), 2);
    }

    static void promise3_theGrammarStaysBy4() {
        stand(SUMS);
        x.aside(3, 1);
        x.kind(1);
        say("1", 0);
        String before = toldOfGrammar() + toldOfFormula();
        due("a fault behind five rules", grammar(rules(5, "rule a is b ] does same") + ";?"), NONE);
        due("trouble", x.trouble(), 4);
        due("the tape is empty", x.size(0), 0);
        same("the grammar stays", toldOfGrammar() + toldOfFormula(), before);
        isTrue("its acts, too", x.undo());
        granted("the kind as it was", x.about(0), 0);
        isTrue("all of them", x.undo());
        granted("rule 3 as it was", x.rule(3, 3), 0);
    }

    static void promise3_theFirstNBytes() {
        stand(SUMS);
        feed(CLASHING + ";? nonsense");
        granted("those ahead of the nonsense", x.grammar(CLASHING.length()), 2);
        due("the tape is empty then", x.size(0), 0);
        feed(CLASHING);
        due("one less", x.grammar(CLASHING.length() - 1), NONE);
        due("one less: fault", x.fault() * 1000 + x.where(), 1000 + CLASHING.length() - 5);
        due("the tape is empty then, too", x.size(0), 0);
    }

    static void promise3_noRuleAsideNothingToUndoNoFormula() {
        stand(TWELVE_RULES);
        for (int r = 0; r < 9; r++) {
            x.aside(r, 1);
        }
        x.kind(2);
        x.kind(0);
        say("1", 0);
        granted("a formula", x.read(0), 0);
        granted("another grammar", grammar(TWELVE_RULES), 12);
        due("none aside", x.size(2), 0);
        for (int r = 0; r < 12; r++) {
            granted("rule " + r, x.rule(r, 3), 0);
        }
        due("nothing to undo", x.size(1), 0);
        refused("undo", x.undo() ? 1 : 0, 0, 1);
        refused("no formula", x.read(0), 1);
        refused("no value", x.value(0), MIN, 1);
        refused("no other way", x.otherwise(), 1);
    }

    static void promise3_nothingOfTheOldOneIsLeft() {
        stand(ELEVEN_TERMINALS);
        granted("one rule", grammar("desk real;rule z is value does value"), 1);
        granted("kind", x.about(0), 2);
        granted("names", x.about(2), 1);
        granted("terminals", x.about(3), 1);
        granted("its sign", x.sign(0), 0);
        refused("no second rule", x.rule(1, 0), 1);
        granted("relations", x.related(1) * 100 + x.related(2) * 10 + x.related(4), 101);
        granted("knots", x.knotted(), 4);
    }

    static void promise3_eachTextIsReadAnew() {
        fresh();
        due("a fault behind two rules", grammar("desk whole;rule a is + a - a * does add;"
                + "rule b is b * b does add;rule a is b b"), NONE);
        due("its place", x.where(), 77);
        granted("two rules", grammar(rules(2, VALUE_RULE)), 2);
        granted("one name", x.about(2), 1);
        granted("one terminal", x.about(3), 1);
        granted("kind", x.about(0), 0);
        granted("a double", x.doubles(), 2);
        granted("items", x.rule(0, 1) * 10 + x.rule(1, 1), 11);
        fresh();
        due("a fault behind a's and b's rules", grammar("desk mixed;rule a is value does value;"
                + "rule b is value does value;?"), NONE);
        due("b isn't a head in the next text", grammar("desk mixed;rule a is b does same"), NONE);
        due("LACKS", x.fault(), 5);
        due("MANY doesn't count the text ahead", grammar("desk mixed;rule c is + d - d * does add;"
                + "rule d is / e ^ f ( does add;rule g is h ) h does add;?"), NONE);
        due("FORM", x.fault(), 1);
        granted("names of this one alone", grammar(SIX_NAMES), 6);
        granted("six", x.about(2), 6);
    }

    static void promise3_manyGrammarsOneBehindTheOther() {
        fresh();
        for (int round = 0; round < 3; round++) {
            granted("twelve rules", grammar(TWELVE_RULES), 12);
            due("none aside", x.size(2), 0);
            for (int r = 0; r < 12; r++) {
                x.aside(r, 1);
            }
            granted("eleven terminals", grammar(ELEVEN_TERMINALS), 4);
            due("none aside", x.size(2), 0);
            granted("like", x.related(2), 7);
            x.aside(0, 1);
            granted("one rule", grammar("desk mixed;rule a is a does same"), 1);
            granted("no relation", x.related(1) + x.related(2) + x.related(4), 0);
            granted("no lead", x.edge(0, 0), 0);
        }
    }

    // ---- 4: fault

    static void promise4_ofTheLatestGrammarNotRefusedBy2() {
        fresh();
        due("without one", x.fault(), 0);
        x.grammar(1);
        due("refused by 2", x.fault(), 0);
        grammar("desk mixed;desk");
        due("AGAIN", x.fault(), 6);
        x.grammar(1);
        x.about(0);
        due("it stays by 2 and by other calls", x.fault(), 6);
        grammar("rule");
        due("LACKS", x.fault(), 5);
        grammar(SUMS);
        due("none", x.fault(), 0);
        grammar("?");
        due("FORM", x.fault(), 1);
        say("1", 0);
        due("behind a formula", x.fault(), 1);
    }

    static void promise4_eachNumber() {
        String[] texts = {"desk", "desk mixed;rule e is + does add", "desk mixed;rule e is e e",
            "desk mixed;rule e is + + + + + +", "desk mixed", "desk mixed;desk"};
        for (int i = 0; i < 6; i++) {
            fresh();
            grammar(texts[i]);
            due(texts[i], x.fault(), i + 1);
        }
    }

    // ---- 5: where

    static void promise5_behind4() {
        fresh();
        grammar("?");
        due("at 0", x.where(), 0);
        due("again", x.where(), 0);
        grammar("desk mixed    ");
        due("at the end", x.where(), 14);
        x.grammar(-1);
        due("behind 2", x.where(), NONE);
        due("fault stays", x.fault(), 5);
        x.grammar(0);
        due("behind 4 again", x.where(), 0);
        x.about(0);
        due("behind 1", x.where(), NONE);
    }

    static void promise5_behind6() {
        stand(SUMS);
        say(")", 0);
        due("at 0", x.where(), 0);
        say("1 +  ", 0);
        due("at the end", x.where(), 5);
        x.read(0);
        due("behind a granted call", x.where(), NONE);
        x.otherwise();
        due("of the other way", x.where(), 5);
        x.value(0);
        due("behind 1", x.where(), NONE);
        x.later();
        due("behind later", x.where(), NONE);
        say("1", 0);
        due("behind one that is read", x.where(), NONE);
    }

    static void promise5_behindOtherRefusals() {
        stand(CLASHING);
        grammar("?");
        x.highest();
        due("behind 5", x.where(), NONE);
        grammar("?");
        x.related(3);
        due("behind 2", x.where(), NONE);
        grammar("  ?");
        x.undo();
        due("behind undo", x.where(), NONE);
    }

    // ---- 6 to 9: the grammar

    static void promise6_what0To3() {
        stand("desk real;" + SUMS.substring(11));
        int[] want = {2, 6, 3, 5};
        for (int what = 0; what < 4; what++) {
            granted("about " + what, x.about(what), want[what]);
        }
        refused("about 4", x.about(4), 1);
        for (int what : WILD) {
            refused("about " + what, x.about(what), 1);
        }
        x.kind(1);
        granted("kind behind kind()", x.about(0), 1);
        x.aside(0, 1);
        granted("rules aside are rules", x.about(1), 6);
    }

    static void promise6_leastAndMost() {
        stand("desk mixed;rule a is a does same");
        granted("no terminals", x.about(3), 0);
        granted("one name", x.about(2), 1);
        stand(ELEVEN_TERMINALS);
        granted("eleven terminals", x.about(3), 11);
        stand(SIX_NAMES);
        granted("six names", x.about(2), 6);
        stand(TWELVE_RULES);
        granted("twelve rules", x.about(1), 12);
    }

    static void promise7_r() {
        stand(TWELVE_RULES);
        granted("the first", x.rule(0, 1), 1);
        granted("the last", x.rule(11, 1), 2);
        refused("none behind it", x.rule(12, 1), 1);
        for (int r : WILD) {
            refused("rule " + r, x.rule(r, 0), 1);
        }
        stand(CLASHING);
        refused("rule 2 of 2", x.rule(2, 0), 1);
    }

    static void promise7_what0To3() {
        stand(SUMS);
        int[] want = {1, 3, 2, 0};
        for (int what = 0; what < 4; what++) {
            granted("rule 2, " + what, x.rule(2, what), want[what]);
        }
        refused("what 4", x.rule(2, 4), 1);
        for (int what : WILD) {
            refused("what " + what, x.rule(2, what), 1);
        }
        x.aside(2, 1);
        granted("aside", x.rule(2, 3), 1);
        granted("the others aren't", x.rule(1, 3) + x.rule(3, 3), 0);
        x.aside(2, 0);
        granted("no more", x.rule(2, 3), 0);
    }

    static void promise7_deeds0To8() {
        String[] deeds = {"add", "less", "times", "over", "minus", "same", "whole", "real", "value"};
        for (int i = 0; i < 9; i++) {
            String items = i < 4 ? "e + e" : i < 8 ? "+ e" : "value";
            stand("desk mixed;rule e is " + items + " does " + deeds[i]);
            granted(deeds[i], x.rule(0, 2), i);
        }
    }

    static void promise8_i() {
        stand("desk mixed;rule a is + b - * / does same;rule b is value does value");
        int[] want = {0, 101, 1, 2, 3};
        for (int i = 0; i < 5; i++) {
            granted("item " + i, x.item(0, i), want[i]);
        }
        refused("item 5", x.item(0, 5), 1);
        granted("item 0 of one", x.item(1, 0), 4);
        refused("item 1 of one", x.item(1, 1), 1);
        for (int i : WILD) {
            refused("item " + i, x.item(0, i), 1);
            refused("item of rule " + i, x.item(i, 0), 1);
        }
        refused("item of rule 2", x.item(2, 0), 1);
    }

    static void promise8_of12RulesAnd6Names() {
        stand(TWELVE_RULES);
        granted("the last rule's last", x.item(11, 1), 100);
        refused("none behind it", x.item(11, 2), 1);
        refused("rule 12", x.item(12, 0), 1);
        stand(SIX_NAMES);
        granted("the last name", x.item(2, 0), 105);
        stand(ELEVEN_TERMINALS);
        granted("the last terminal", x.item(3, 0), 10);
    }

    static void promise9_t() {
        stand(SUMS);
        int[] want = {'+', '*', '(', ')', 0, -2};
        for (int t = 0; t < 6; t++) {
            granted("sign " + t, x.sign(t), want[t]);
        }
        refused("behind END", x.sign(6), 1);
        for (int t : WILD) {
            refused("sign " + t, x.sign(t), 1);
        }
        stand(ELEVEN_TERMINALS);
        granted("the eleventh", x.sign(10), 0);
        granted("END", x.sign(11), -2);
        refused("behind END of eleven", x.sign(12), 1);
        stand("desk mixed;rule a is a does same");
        granted("END alone", x.sign(0), -2);
        refused("behind END alone", x.sign(1), 1);
    }

    // ---- 10 to 15: relations

    static void promise10_nameAndHow() {
        stand(SIX_NAMES);
        granted("lead of the first", x.edge(0, 0), 3);
        granted("lead of the last", x.edge(5, 0), 2);
        granted("trail of the last", x.edge(5, 1), 2);
        refused("name 6", x.edge(6, 0), 1);
        refused("how 2", x.edge(0, 2), 1);
        for (int no : WILD) {
            refused("name " + no, x.edge(no, 0), 1);
            refused("how " + no, x.edge(0, no), 1);
        }
        x.aside(5, 1);
        granted("lead of the last without its rule", x.edge(5, 0), 0);
        granted("trail of the last without its rule", x.edge(5, 1), 0);
        stand(SUMS);
        refused("name 3 of 3", x.edge(3, 0), 1);
    }

    static void promise10_bitsOfElevenTerminals() {
        stand(ELEVEN_TERMINALS);
        granted("lead", x.edge(0, 0), 1 | 1 << 4 | 1 << 8 | 1 << 10);
        granted("trail", x.edge(0, 1), 1 << 3 | 1 << 7 | 1 << 9 | 1 << 10);
    }

    static void promise11_xAndYUpToEnd() {
        stand(SUMS);
        granted("the first", x.relation(0, 0), 4);
        granted("END and value", x.relation(5, 4), 1);
        granted("value and END", x.relation(4, 5), 4);
        granted("END and END", x.relation(5, 5), 0);
        refused("x behind END", x.relation(6, 0), 1);
        refused("y behind END", x.relation(0, 6), 1);
        for (int no : WILD) {
            refused("x " + no, x.relation(no, 0), 1);
            refused("y " + no, x.relation(0, no), 1);
            refused("both " + no, x.relation(no, no), 1);
        }
        stand(ELEVEN_TERMINALS);
        granted("END of eleven and value", x.relation(11, 10), 1);
        granted("value and END of eleven", x.relation(10, 11), 4);
        refused("x 12", x.relation(12, 0), 1);
        refused("y 12", x.relation(0, 12), 1);
    }

    static void promise12_1And2And4() {
        stand(SUMS);
        granted("below", x.related(1), 13);
        granted("like", x.related(2), 1);
        granted("above", x.related(4), 15);
        for (int no : new int[] {0, 3, 5, 6, 7, 8, 9, 16}) {
            refused("related " + no, x.related(no), 2);
        }
        for (int no : WILD) {
            refused("related " + no, x.related(no), 2);
        }
        fresh();
        refused("without a grammar", x.related(1), 1);
        refused("none of these without a grammar", x.related(0), 1);
    }

    static void promise12_ofElevenTerminalsAndEnd() {
        stand(ELEVEN_TERMINALS);
        // / [ ! and END are below the four of lead; the four of trail are above END.
        granted("below", x.related(1), 16);
        granted("like", x.related(2), 7);
        granted("above", x.related(4), 4);
    }

    static void promise12_twosWithMoreThanOneCountForEach() {
        stand("desk mixed;rule e is ~ e ~ does same;rule e is value does value");
        // ~ below ~, value; END below both. ~ like ~. ~ and value above ~ and END.
        granted("below", x.related(1), 4);
        granted("like", x.related(2), 1);
        granted("above", x.related(4), 4);
    }

    static void promise13_howMany() {
        stand(SUMS);
        granted("none", x.clashes(), 0);
        stand(CLASHING);
        granted("one", x.clashes(), 1);
        x.aside(0, 1);
        granted("none without its rule", x.clashes(), 0);
        x.undo();
        granted("one again", x.clashes(), 1);
        fresh();
        refused("without a grammar", x.clashes(), 1);
    }

    /** Ten signs that each clash with each, and value. */
    private static String tenClashing() {
        StringBuilder text = new StringBuilder("desk mixed");
        for (char sign : "+-*/^!~=&|".toCharArray()) {
            text.append(";rule e is e ").append(sign).append(" e does add");
        }
        return text + ";" + VALUE_RULE;
    }

    static void promise14_byXThenByY() {
        stand(tenClashing());
        granted("a hundred", x.clashes(), 100);
        for (int i = 0; i < 100; i++) {
            granted("clash " + i, x.clash(i), i / 10 * 16 + i % 10);
        }
        refused("clash 100", x.clash(100), 1);
        for (int i : WILD) {
            refused("clash " + i, x.clash(i), 1);
        }
        stand(SUMS);
        refused("the first of none", x.clash(0), 1);
        fresh();
        refused("without a grammar", x.clash(0), 1);
    }

    static void promise15_bits() {
        stand(rules(12, VALUE_RULE));
        granted("all but the first", x.doubles(), 0b111111111110);
        x.aside(0, 1);
        granted("all but two", x.doubles(), 0b111111111100);
        for (int r = 1; r < 11; r++) {
            x.aside(r, 1);
        }
        granted("the last alone is none", x.doubles(), 0);
        stand(SUMS);
        granted("none", x.doubles(), 0);
        fresh();
        refused("without a grammar", x.doubles(), 1);
    }

    // ---- 16 to 21: functions

    static void promise16_tAndWhat() {
        stand(SUMS);
        granted("F of the first", x.function(0, 0), 2);
        granted("G of END", x.function(5, 1), 0);
        refused("t behind END", x.function(6, 0), 1);
        refused("what 2", x.function(0, 2), 1);
        for (int no : WILD) {
            refused("t " + no, x.function(no, 0), 1);
            refused("what " + no, x.function(0, no), 1);
        }
        stand(ELEVEN_TERMINALS);
        granted("F of END of eleven", x.function(11, 0), 0);
        refused("t 12", x.function(12, 1), 1);
    }

    static void promise16_by5ThereAreNone() {
        stand(RINGED);
        for (int t = 0; t <= 5; t++) {
            refused("F of " + t, x.function(t, 0), 5);
            refused("G of " + t, x.function(t, 1), 5);
        }
        refused("1 ahead of 5: t", x.function(6, 0), 1);
        refused("1 ahead of 5: what", x.function(0, 2), 1);
        x.aside(0, 1);
        isTrue("there are some without a rule", x.function(0, 0) >= 0);
    }

    static void promise17_theGreatest() {
        stand(SUMS);
        granted("of SUMS", x.highest(), 5);
        for (int r = 0; r < 6; r++) {
            x.aside(r, 1);
        }
        granted("without arcs", x.highest(), 0);
        // F of + is more than G of END, G of + more than F of END: 1.
        stand("desk mixed;rule e is + f does same;rule f is f does same");
        granted("one arc", x.highest(), 1);
        stand(CLASHING);
        refused("there are none", x.highest(), 5);
        fresh();
        refused("without a grammar", x.highest(), 1);
    }

    static void promise18_1And2And4() {
        stand(SUMS);
        granted("below", x.hidden(1), 4);
        granted("like", x.hidden(2), 3);
        granted("above", x.hidden(4), 0);
        granted("with those related all twos", 4 + 3 + x.related(1) + x.related(2) + x.related(4), 36);
        for (int no : new int[] {0, 3, 5, 6, 7, 8}) {
            refused("hidden " + no, x.hidden(no), 2);
        }
        for (int no : WILD) {
            refused("hidden " + no, x.hidden(no), 2);
        }
        stand(CLASHING);
        refused("2 ahead of 5", x.hidden(0), 2);
        refused("5", x.hidden(1), 5);
        fresh();
        refused("1 ahead of 2", x.hidden(0), 1);
    }

    static void promise18_allTwosWithoutRelations() {
        stand(SUMS);
        for (int r = 0; r < 6; r++) {
            x.aside(r, 1);
        }
        granted("like", x.hidden(2), 36);
        granted("below and above", x.hidden(1) + x.hidden(4), 0);
        stand("desk mixed;rule e is value does value");
        // F of value 1, G of value 1, END 0: value like value, END like END.
        granted("like, with END", x.hidden(2), 2);
        // ~ 0, + 1, value 2. F 1 3 3 and 0 of END, G 1 2 4 and 0 of END: ~ stands first alone.
        stand("desk mixed;rule s is ~ e does minus;rule e is e + v does add;rule e is v does same;"
                + "rule v is value does value");
        granted("+ and value above ~", x.hidden(4), 2);
        granted("~ like ~, END like END", x.hidden(2), 2);
        granted("value below value, END below + and value", x.hidden(1), 3);
    }

    static void promise19_leastAndMost() {
        stand("desk mixed;rule a is a does same");
        granted("F and G of END", x.knotted(), 2);
        stand(tenClashing());
        granted("no like: two of each", x.knotted(), 24);
        stand(ELEVEN_TERMINALS);
        // + - * /, ^ ( ) [ and ] ! are like one behind the other: seven twos.
        granted("seven less", x.knotted(), 17);
        for (int r = 0; r < 4; r++) {
            x.aside(r, 1);
        }
        granted("none less", x.knotted(), 24);
        fresh();
        refused("without a grammar", x.knotted(), 1);
    }

    static void promise20_howMany() {
        stand(SUMS);
        granted("none", x.ring(), 0);
        stand("desk mixed;rule e is ~ e ~ does same;rule e is value does value");
        granted("one", x.ring(), 1);
        stand(CLASHING);
        granted("two", x.ring(), 2);
        stand(RINGED);
        granted("four", x.ring(), 4);
        x.aside(0, 1);
        granted("none without a rule", x.ring(), 0);
        x.undo();
        granted("four again", x.ring(), 4);
        fresh();
        refused("without a grammar", x.ring(), 1);
    }

    static void promise21_i() {
        stand(RINGED);
        int[] ring = {1, 18, 3, 16};
        for (int i = 0; i < 4; i++) {
            granted("knot " + i, x.ringAt(i), ring[i]);
        }
        refused("knot 4", x.ringAt(4), 1);
        for (int i : WILD) {
            refused("knot " + i, x.ringAt(i), 1);
        }
        x.aside(0, 1);
        refused("the first of none", x.ringAt(0), 1);
        fresh();
        refused("without a grammar", x.ringAt(0), 1);
    }

    // ---- 22 to 28: formulas

    static void promise22_n() {
        stand(SUMS);
        refused("1 of 0", x.formula(1, 0), 2);
        due("0 of 0", x.formula(0, 0), NONE);
        due("0 of 0: trouble", x.trouble(), 6);
        due("0 of 0: where", x.where(), 0);
        feed("12345678901234567890");
        refused("21 of 20", x.formula(21, 1), 2);
        for (int n : WILD) {
            refused("n " + n, x.formula(n, 0), 2);
        }
        due("the tape stays", x.size(0), 20);
        granted("4 of 20", x.formula(4, 0), 2);
        granted("its value", x.value(1), 1234);
        due("the tape is empty then", x.size(0), 0);
        feed("1 + 2 + 3 + 4 + 5 + ".substring(0, 17) + "  7");
        due("20 of 20", x.formula(20, 0), NONE);
        due("20 of 20: where", x.where(), 19);
    }

    static void promise22_how() {
        stand(SUMS);
        feed("1");
        refused("how 2", x.formula(1, 2), 1);
        for (int how : WILD) {
            refused("how " + how, x.formula(1, how), 1);
        }
        due("the tape stays", x.size(0), 20);
        granted("how 1", x.formula(1, 1), 2);
        feed("1");
        granted("how 0", x.formula(1, 0), 2);
    }

    static void promise22_refusedBy1Or2ItLeavesAll() {
        stand(SUMS);
        say("1+2*3", 0);
        feed("4");
        leavesAll("by 1 and 2", () -> {
            refused("by 1", x.formula(1, 2), 1);
            refused("by 2", x.formula(21, 0), 2);
        });
        granted("the tape's bytes stay, too", x.formula(1, 0), 2);
        granted("its value", x.value(1), 4);
    }

    static void promise22_by5TheTapeStays() {
        stand(CLASHING);
        feed("4");
        refused("clashes", x.formula(1, 0), 5);
        refused("no functions", x.formula(1, 1), 5);
        due("the tape stays", x.size(0), 20);
        refused("no formula", x.read(0), 1);
        x.aside(0, 1);
        granted("its bytes, too", x.formula(1, 0), 2);
        granted("its value", x.value(1), 4);
        stand(RINGED);
        granted("a ring, but no clash: by relations", say("* - 5", 0), 6);
        feed("5");
        leavesAll("by 5", () -> refused("not by functions", x.formula(1, 1), 5));
        granted("the tape's bytes stay", x.formula(1, 0), 2);
        granted("its value, too", x.value(1), 5);
    }

    static void promise22_by6ItIsTheFormulaAllTheSame() {
        stand(SUMS);
        granted("one that is read", say("1+2", 0), 6);
        fails(3, "7 * 8 @9", 0);
        due("the tape is empty then", x.size(0), 0);
        granted("tokens", x.read(1), 4);
        granted("steps", x.read(2), 4);
        granted("its first node", x.node(0, 4), 7);
        fails(1, "7 * @$", 0);
        granted("no tokens", x.read(1), 0);
        refused("no nodes", x.reduced(0), 1);
    }

    static void promise23_what0To4() {
        stand(SUMS);
        refused("none", x.read(0), 1);
        granted("a formula", say("1+2*(3)", 0), 13);
        int[] want = {0, 7, 13, 6, 4};
        for (int what = 0; what < 5; what++) {
            granted("read " + what, x.read(what), want[what]);
        }
        refused("read 5", x.read(5), 1);
        for (int what : WILD) {
            refused("read " + what, x.read(what), 1);
        }
    }

    static void promise23_tokensAre0IfThereIsNoToken() {
        stand(SUMS);
        fails(1, "1 + 2 @$");
        granted("tokens", x.read(1), 0);
        fails(2, "1 + @^ 2 +");
        granted("tokens of what fails by 2", x.read(1), 5);
        fails(4, "@");
        granted("tokens of nothing", x.read(1), 0);
    }

    static void promise23_ofTheLatestFormula() {
        stand(SUMS);
        say("1+2", 0);
        say("5", 1);
        granted("tokens", x.read(1), 1);
        granted("reduced", x.read(3), 1);
        granted("most", x.read(4), 1);
        refused("no second node", x.reduced(1), 1);
        x.kind(0);
        for (int what = 0; what < 5; what++) {
            refused("none", x.read(what), 1);
        }
    }

    static void promise24_i() {
        stand(SUMS);
        refused("without a formula", x.reduced(0), 1);
        say("1+2*3", 0);
        int[] rules = {5, 5, 5, 2, 0};
        for (int i = 0; i < 5; i++) {
            granted("reduced " + i, x.reduced(i), rules[i]);
        }
        refused("reduced 5", x.reduced(5), 1);
        for (int i : WILD) {
            refused("reduced " + i, x.reduced(i), 1);
        }
        fails(4, "1+@");
        granted("of one that fails", x.reduced(0), 5);
        refused("what fails isn't reduced", x.reduced(1), 1);
        stand(TWELVE_RULES);
        say("+5", 0);
        granted("the twelfth rule", x.reduced(1), 11);
    }

    static void promise25_iAndWhat() {
        stand(SUMS);
        refused("without a formula", x.node(0, 0), MIN, 1);
        say("1+2.5", 0);
        int[] last = {0, 1, 2, 1, Float.floatToIntBits(3.5f)};
        int[] first = {-2, -2, 1, 0, 1};
        for (int what = 0; what < 5; what++) {
            granted("the first", x.node(0, what), first[what]);
            granted("the last", x.node(2, what), last[what]);
        }
        refused("node 3", x.node(3, 0), MIN, 1);
        refused("what 5", x.node(0, 5), MIN, 1);
        for (int no : WILD) {
            refused("node " + no, x.node(no, 0), MIN, 1);
            refused("what " + no, x.node(0, no), MIN, 1);
        }
        stand(ALL_DEEDS);
        say("~5", 0);
        granted("one under it: the first", x.node(1, 0), 0);
        granted("one under it: no second", x.node(1, 1), -2);
    }

    static void promise25_bitsMayBeTheLeastInt() {
        stand(ALL_DEEDS);
        say("~0.0", 0);
        granted("-0.0", x.node(1, 4), MIN);
        say("1024*1024*2048", 0);
        granted("wrapped", x.node(4, 4), MIN);
        say("1024*1024*2048/0", 0);
        granted("of one that fails", x.node(4, 4), MIN);
    }

    static void promise26_nodeAndI() {
        stand(SUMS);
        refused("without a formula", x.under(0, 0), 1);
        say("1*2+3*4", 0);
        // 1, 2, * of both, 3, 4, * of both, + of all: nodes 0 to 6.
        int[] all = {6, 2, 0, 1, 5, 3, 4};
        for (int i = 0; i < 7; i++) {
            granted("under all, " + i, x.under(6, i), all[i]);
        }
        refused("under all, 7", x.under(6, 7), 1);
        int[] second = {5, 3, 4};
        for (int i = 0; i < 3; i++) {
            granted("under the second, " + i, x.under(5, i), second[i]);
        }
        refused("under the second, 3", x.under(5, 3), 1);
        granted("itself alone", x.under(0, 0), 0);
        refused("no more", x.under(0, 1), 1);
        refused("node 7", x.under(7, 0), 1);
        for (int no : WILD) {
            refused("node " + no, x.under(no, 0), 1);
            refused("i " + no, x.under(6, no), 1);
        }
    }

    static void promise27_what0To2() {
        stand(ALL_DEEDS);
        refused("without a formula", x.value(0), MIN, 1);
        say("~2.75", 0);
        granted("real", x.value(0), 1);
        granted("bits", x.value(1), Float.floatToIntBits(-2.75f));
        granted("as an int", x.value(2), -2);
        refused("what 3", x.value(3), MIN, 1);
        for (int what : WILD) {
            refused("what " + what, x.value(what), MIN, 1);
        }
        say("7", 0);
        granted("whole", x.value(0), 0);
        say("7 7", 0);
        for (int what = 0; what < 3; what++) {
            refused("it failed", x.value(what), MIN, 1);
        }
        x.kind(0);
        refused("none any more", x.value(0), MIN, 1);
    }

    static void promise27_theLeastIntMayBeGranted() {
        stand(ALL_DEEDS);
        isWhole("1024*1024*2048", MIN);
        isReal("~0.0", -0f);
        granted("bits of -0.0", x.value(1), MIN);
        isReal("~9999.0*9999.0*9999.0", -(9999f * 9999f * 9999f));
        granted("cast to the least int", x.value(2), MIN);
    }

    static void promise28_byThree() {
        stand(ALL_DEEDS);
        refused("without a formula", x.third(), Long.MIN_VALUE, 1);
        say("7", 0);
        granted("7", x.third(), Double.doubleToLongBits(7.0 / 3));
        say("0.1", 0);
        granted("0.1, the float as a double", x.third(), Double.doubleToLongBits((double) 0.1f / 3));
        say("1024*1024*2048", 0);
        granted("the least int", x.third(), Double.doubleToLongBits((double) MIN / 3));
        say("~0.0", 0);
        granted("-0.0 by 3 has the bits of the least long", x.third(), Long.MIN_VALUE);
        say("0", 0);
        granted("0", x.third(), 0);
        say("1/0.0", 0);
        granted("infinite", x.third(), Double.doubleToLongBits(Double.POSITIVE_INFINITY));
        say("0/0.0", 0);
        granted("no number", x.third(), Double.doubleToLongBits(Double.NaN));
        say("1 1", 0);
        refused("it failed", x.third(), Long.MIN_VALUE, 1);
        x.kind(0);
        refused("none any more", x.third(), Long.MIN_VALUE, 1);
    }

    // ---- 29 and 30: the other way

    static void promise29_theOtherWay() {
        stand(SUMS);
        refused("none", x.otherwise(), 1);
        say("1+2*3", 0);
        granted("by functions", x.otherwise(), 10);
        say("1+2*3", 1);
        granted("by relations", x.otherwise(), 10);
        x.kind(0);
        refused("none any more", x.otherwise(), 1);
    }

    static void promise29_keptIsTheOneThatWas() {
        stand(SUMS);
        fails(3, "1 @2", 0);
        String before = toldOfFormula();
        for (int i = 0; i < 2; i++) {
            due("by functions", x.otherwise(), NONE);
            due("by functions: trouble", x.trouble(), 6);
            due("by functions: where", x.where(), 3);
            same("kept", toldOfFormula(), before);
        }
        granted("later", x.later(), 2);
        same("kept behind later", toldOfFormula(), before);
        fails(4, "1 2@", 1);
        before = toldOfFormula();
        due("by relations", x.otherwise(), NONE);
        due("by relations: where", x.where(), 2);
        same("kept", toldOfFormula(), before);
    }

    static void promise29_by5() {
        stand(RINGED);
        say("* - 5", 0);
        leavesAll("by 5", () -> refused("no functions", x.otherwise(), 5));
        granted("its value", x.value(1), 5);
    }

    static void promise29_noTokenEitherWay() {
        stand(SUMS);
        fails(1, "1 @$", 0);
        due("otherwise", x.otherwise(), NONE);
        due("otherwise: trouble", x.trouble(), 6);
        due("otherwise: where", x.where(), 2);
    }

    static void promise30_howManyMore() {
        stand(SUMS);
        refused("none", x.later(), 1);
        say("1+2*3", 0);
        granted("none more", x.later(), 0);
        for (int how = 0; how < 2; how++) {
            say("1 2", how);
            granted("two more, kept by " + how, x.later(), 2);
            say("1 (", how);
            granted("one more, kept by " + how, x.later(), 1);
            say("$", how);
            granted("no token, kept by " + how, x.later(), 0);
            say("", how);
            granted("nothing, kept by " + how, x.later(), 0);
        }
        x.kind(0);
        refused("none any more", x.later(), 1);
    }

    static void promise30_by5() {
        stand(RINGED);
        say("* - 5", 0);
        leavesAll("by 5", () -> refused("no functions", x.later(), 5));
    }

    // ---- 31 to 33: acts

    static void promise31_r() {
        stand(TWELVE_RULES);
        refused("rule 12", x.aside(12, 1), 1);
        for (int r : WILD) {
            refused("rule " + r, x.aside(r, 1), 1);
        }
        for (int r = 0; r < 12; r++) {
            granted("rule " + r, x.aside(r, 1), r + 1);
            due("aside", x.size(2), r + 1);
        }
        for (int r = 11; r >= 0; r--) {
            granted("no more " + r, x.aside(r, 0), r);
        }
        stand(CLASHING);
        refused("rule 2 of 2", x.aside(2, 1), 1);
    }

    static void promise31_is() {
        stand(SUMS);
        refused("is 2", x.aside(0, 2), 2);
        for (int is : WILD) {
            refused("is " + is, x.aside(0, is), 2);
        }
        refused("it is so: not aside", x.aside(0, 0), 5);
        granted("aside", x.aside(0, 1), 1);
        refused("it is so: aside", x.aside(0, 1), 5);
        granted("no more", x.aside(0, 0), 0);
        refused("it is so again", x.aside(0, 0), 5);
    }

    static void promise31_refusedItLeavesAll() {
        stand(SUMS);
        x.aside(3, 1);
        say("1", 0);
        feed("2");
        leavesAll("aside refused", () -> {
            refused("by 1", x.aside(6, 1), 1);
            refused("by 2", x.aside(0, 2), 2);
            refused("by 5", x.aside(0, 0), 5);
            refused("by 5, too", x.aside(3, 1), 5);
        });
    }

    static void promise31_thereIsNoFormulaAnyMore() {
        stand(SUMS);
        say("1", 0);
        granted("aside", x.aside(2, 1), 1);
        refused("read", x.read(0), 1);
        refused("value", x.value(0), MIN, 1);
        refused("node", x.node(0, 0), MIN, 1);
        refused("under", x.under(0, 0), 1);
        refused("reduced", x.reduced(0), 1);
        refused("later", x.later(), 1);
        feed("1");
        granted("no more", x.aside(2, 0), 0);
        due("the tape stays", x.size(0), 20);
        granted("the next one", x.formula(1, 0), 2);
    }

    static void promise32_k() {
        stand(SUMS);
        granted("1", x.kind(1), 0);
        granted("2", x.kind(2), 1);
        granted("0", x.kind(0), 2);
        refused("3", x.kind(3), 2);
        for (int k : WILD) {
            refused("kind " + k, x.kind(k), 2);
        }
        granted("it is as it was", x.about(0), 0);
        fresh();
        refused("without a grammar", x.kind(0), 1);
        refused("without a grammar, and 3", x.kind(3), 1);
    }

    static void promise32_theSameToo() {
        stand(SUMS);
        for (int k = 0; k < 3; k++) {
            x.kind(k);
            say("1", 0);
            granted("the same", x.kind(k), k);
            refused("no formula any more", x.read(0), 1);
        }
        due("each is an act", x.size(1), 6);
        isTrue("undone", x.undo());
        granted("the same behind it", x.about(0), 2);
        isTrue("undone", x.undo());
        granted("the one ahead", x.about(0), 1);
    }

    static void promise32_refusedItLeavesAll() {
        stand(SUMS);
        x.kind(1);
        say("1", 0);
        feed("2");
        leavesAll("kind refused", () -> {
            refused("3", x.kind(3), 2);
            refused("-1", x.kind(-1), 2);
        });
    }

    static void promise33_untilThereIsNothing() {
        stand(SUMS);
        due("nothing", x.undo() ? 1 : 0, 0);
        due("nothing: trouble", x.trouble(), 1);
        x.kind(2);
        x.aside(1, 1);
        isTrue("one", x.undo());
        due("one: trouble", x.trouble(), 0);
        due("none aside", x.size(2), 0);
        isTrue("two", x.undo());
        granted("kind", x.about(0), 0);
        due("no third", x.undo() ? 1 : 0, 0);
        due("no third: trouble", x.trouble(), 1);
    }

    static void promise33_ofEachOfTwelveRules() {
        stand(TWELVE_RULES);
        for (int r = 0; r < 12; r++) {
            granted("aside", x.aside(r, 1), 1);
            isTrue("undone", x.undo());
            granted("no more aside", x.rule(r, 3), 0);
            due("none aside", x.size(2), 0);
        }
        for (int r = 11; r >= 2; r--) {
            x.aside(r, 1);
        }
        for (int r = 2; r < 12; r++) {
            isTrue("undone", x.undo());
            granted("no more aside", x.rule(r, 3), 0);
            due("aside", x.size(2), 11 - r);
        }
    }

    static void promise33_noFormulaEither() {
        stand(SUMS);
        x.kind(0);
        say("1", 0);
        isTrue("undo", x.undo());
        refused("no formula", x.read(0), 1);
        say("2", 0);
        feed("3");
        leavesAll("undo refused", () -> refused("nothing", x.undo() ? 1 : 0, 0, 1));
        granted("the formula stays", x.value(1), 2);
        granted("the tape stays", x.formula(1, 0), 2);
    }

    // ---- 34 to 36: what is told

    static void promise34_i() {
        stand(SIX_NAMES);
        due("none", barren(0), THROWN);
        for (int r = 0; r < 6; r++) {
            x.aside(r, 1);
        }
        // Rules 0 to 5 are of names 0, 1, 2, 3, 4, 5.
        for (int i = 0; i < 6; i++) {
            due("barren " + i, barren(i), i);
        }
        due("barren 6", barren(6), THROWN);
        for (int i : WILD) {
            due("barren " + i, barren(i), THROWN);
        }
        x.aside(2, 0);
        due("the third is name 3", barren(2), 3);
        due("the fifth is name 5", barren(4), 5);
        due("no sixth", barren(5), THROWN);
        fresh();
        due("without a grammar", barren(0), THROWN);
    }

    static void promise34_allRulesOfIt() {
        stand(SUMS);
        x.aside(4, 1);
        due("one of two", barren(0), THROWN);
        x.aside(5, 1);
        due("both", barren(0), 2);
        due("no second", barren(1), THROWN);
        x.undo();
        due("one of two again", barren(0), THROWN);
    }

    static void promise35_what() {
        stand(SUMS);
        feed("1");
        x.kind(1);
        x.aside(0, 1);
        x.aside(5, 1);
        due("bytes", x.size(0), 20);
        due("acts", x.size(1), 3);
        due("aside", x.size(2), 2);
        due("3", x.size(3), NONE);
        for (int what : WILD) {
            due("size " + what, x.size(what), NONE);
        }
        due("no trouble", x.trouble(), 0);
    }

    static void promise35_0ForWhatThereIsNot() {
        fresh();
        for (int what = 0; what < 3; what++) {
            due("size " + what, x.size(what), 0);
        }
        due("3", x.size(3), NONE);
        due("no trouble", x.trouble(), 0);
        feed("1");
        due("a tape without a grammar", x.size(0), 20);
    }

    static void promise36_eachNumber() {
        fresh();
        due("none yet", x.trouble(), 0);
        x.kind(0);
        due("1", x.trouble(), 1);
        x.grammar(1);
        due("2", x.trouble(), 2);
        x.grammar(0);
        due("4", x.trouble(), 4);
        grammar(CLASHING);
        due("0", x.trouble(), 0);
        x.highest();
        due("5", x.trouble(), 5);
        due("asked again", x.trouble(), 5);
        x.aside(0, 1);
        x.formula(0, 0);
        due("6", x.trouble(), 6);
        x.read(0);
        due("0 again", x.trouble(), 0);
    }
}
