/** Term I, the text of a grammar: its bounds, and faults 1 to 6 with their places. */
public final class TermITests extends Bench {
    private static final String SIGNS = "+-*/^()[]!~=&|";
    private static final String[] NO_NAMES = {"desk", "rule", "is", "does", "value"};
    private static final String[] KINDS = {"mixed", "whole", "real"};
    private static final String[] DEEDS = {
        "add", "less", "times", "over", "minus", "same", "whole", "real", "value"};
    /** a 0 .. f 5, each of them a head. */
    private static final String SIX_NAMES =
            "desk mixed;rule a is b + c does add;rule b is d + e does add;rule c is f does same;"
            + "rule d is value does value;rule e is value does value;rule f is value does value";
    /** + - * / ^ ( ) [ ] ! ~, 0 to 10. */
    private static final String ELEVEN_SIGNS =
            "desk mixed;rule a is + - * / a does same;rule a is ^ ( ) [ a does same;"
            + "rule a is ] ! ~ a does same";

    public static void main(String[] args) {
        runAll(TermITests.class);
    }

    private static boolean isOneOf(String word, String... words) {
        for (String w : words) {
            if (w.equals(word)) {
                return true;
            }
        }
        return false;
    }

    // ---- the tape and its tokens

    static void termI_theTapeHas900Bytes() {
        taken(1, spread("desk mixed", ";" + VALUE_RULE, 900));
        faultyAt(1, spread("desk mixed", "?", 900), 899);
        faultyAt(5, spread("desk mixed", "", 900), 900);
        faultyAt(1, spread("", "", 900), 900);
        faultyAt(1, spread("", "abcdefg", 900), 893);
    }

    static void termI_blanksPartTokensAndMeanNothingElse() {
        taken(1, "   desk   mixed  ;   rule  e  is  value  does  value   ");
        taken(3, "desk mixed;rule e is+e does same;rule e is(e)does same;" + VALUE_RULE);
        due("items of + e", x.rule(0, 1), 2);
        due("items of ( e )", x.rule(1, 1), 3);
        taken(2, "desk mixed;rule e is+-*(e does same;" + VALUE_RULE);
        due("signs side by side are single ones", x.rule(0, 1), 5);
        faulty(1, "@de sk mixed");
        faulty(1, "desk @mi xed");
        faulty(3, "desk mixed;rule e is va @lue does value");
        faulty(1, "@deskmixed;" + VALUE_RULE);
        faulty(1, "desk mixed;@rulee is value does value");
    }

    static void termI_only32IsABlank() {
        String head = "desk mixed;rule e is + ";
        String tail = " e does same;" + VALUE_RULE;
        for (int b = 0; b < 256; b++) {
            boolean isLetter = b >= 'a' && b <= 'z';
            if (b == 32 || SIGNS.indexOf(b) >= 0) {
                taken(2, head + (char) b + tail);
            } else if (isLetter) {
                faultyAt(3, head + (char) b + tail, head.length() + 2);
            } else {
                faultyAt(1, head + (char) b + tail, head.length());
            }
        }
    }

    static void termI_wordsHave1To6Letters() {
        taken(1, "desk mixed;rule z is value does value");
        taken(1, "desk mixed;rule abcxyz is value does value");
        for (int n = 7; n < 40; n++) {
            faulty(1, "desk mixed;rule @" + "abcdefghijklm".repeat(4).substring(0, n) + " is value");
        }
        faulty(1, "@deskdes mixed");
        faulty(1, "desk @mixedxx");
        faulty(1, "desk mixed;@ruleabc e");
        faulty(1, "desk mixed;rule e @isisisi value");
        faulty(1, "desk mixed;rule e is @valueva does value");
        faulty(1, "desk mixed;rule e is value @doesdoe value");
        faulty(1, "desk mixed;rule e is value does @valuexx");
    }

    static void termI_wordsDifferByEachLetter() {
        taken(6, "desk mixed;rule a is value does value;rule aa is value does value;"
                + "rule aaaaaa is value does value;rule z is value does value;"
                + "rule zzzzzz is value does value;rule aaaaaz is value does value");
        due("six names", x.about(2), 6);
        taken(3, "desk mixed;rule zaaaaa is value does value;rule baaaaa is value does value;"
                + "rule baaaaa is + zaaaaa does same");
        due("two names", x.about(2), 2);
        due("the second's number", x.rule(2, 0), 1);
        due("the first's number", x.item(2, 1), 100);
        faulty(1, "desk mixed;@rulf e is");
        faulty(1, "desk @whola");
    }

    static void termI_thereAreFourteenSigns() {
        for (int i = 0; i < SIGNS.length(); i++) {
            char sign = SIGNS.charAt(i);
            taken(2, "desk mixed;rule e is " + sign + " e does same;" + VALUE_RULE);
            granted("sign " + sign, x.sign(0), sign);
            granted("value behind it", x.sign(1), 0);
        }
    }

    // ---- lines

    static void termI_linesAreParted() {
        taken(2, "desk mixed;" + VALUE_RULE + ";" + VALUE_RULE);
        faulty(1, "@;desk mixed;" + VALUE_RULE);
        faulty(1, "desk mixed;@;" + VALUE_RULE);
        faulty(1, "desk mixed;" + VALUE_RULE + ";@");
        faulty(1, "desk mixed;" + VALUE_RULE + ";  @");
        faulty(1, "desk mixed;" + VALUE_RULE + ";@;");
        faulty(1, "desk mixed @" + VALUE_RULE);
        faulty(1, "desk mixed;" + VALUE_RULE + " @" + VALUE_RULE);
    }

    static void termI_kindIsMixedWholeOrReal() {
        for (int k = 0; k < 3; k++) {
            taken(1, "desk " + KINDS[k] + ";" + VALUE_RULE);
            granted("kind", x.about(0), k);
        }
        for (String no : new String[] {"desk", "rule", "is", "value", "add", "e", "mixe", "+", ";"}) {
            faulty(1, "desk @" + no + ";" + VALUE_RULE);
        }
        faulty(1, "desk mixed @whole;" + VALUE_RULE);
    }

    static void termI_rulesAreUpTo12() {
        for (int n = 1; n <= 12; n++) {
            taken(n, rules(n, VALUE_RULE));
            granted("rules", x.about(1), n);
            granted("the last is told", x.rule(n - 1, 2), 8);
            refused("none behind it", x.rule(n, 2), 1);
        }
        faulty(4, rules(12, VALUE_RULE) + ";@" + VALUE_RULE);
        faulty(4, rules(12, VALUE_RULE) + ";@rule");
        faulty(4, rules(12, VALUE_RULE) + ";@rule ?");
        faulty(4, rules(12, VALUE_RULE) + ";  @rule desk");
        faulty(4, rules(12, VALUE_RULE) + ";@rule e is value does add;" + VALUE_RULE);
    }

    static void termI_itemsAre1To5() {
        String[] five = {"e", "+ e", "+ e -", "+ e - *", "+ e - * /"};
        for (int n = 1; n <= 5; n++) {
            taken(2, "desk mixed;rule e is " + five[n - 1] + " does same;" + VALUE_RULE);
            granted("items", x.rule(0, 1), n);
        }
        faulty(1, "desk mixed;rule e is @does same;" + VALUE_RULE);
        faulty(4, "desk mixed;rule e is + e - * / @+ does same;" + VALUE_RULE);
        faulty(4, "desk mixed;rule e is + e - * / @value does same;" + VALUE_RULE);
        faulty(4, "desk mixed;rule e is + e - * / @e does add;" + VALUE_RULE);
        faulty(4, "desk mixed;rule e is + + + + + @+");
    }

    // ---- names and terminals

    static void termI_namesAreWordsButFive() {
        for (String no : NO_NAMES) {
            faulty(1, "desk mixed;rule @" + no + " is value does value");
        }
        for (String no : new String[] {"desk", "rule", "is", "does"}) {
            faulty(1, "desk mixed;rule e is @" + no);
        }
        for (String no : new String[] {"desk", "rule", "is"}) {
            faulty(1, "desk mixed;rule e is + @" + no);
        }
        for (String yes : new String[] {"mixed", "whole", "real", "add", "less", "times", "over",
            "minus", "same", "des", "desks", "i", "iss", "doe", "values", "valu", "rul"}) {
            taken(2, "desk mixed;rule " + yes + " is + " + yes + " does same;rule " + yes
                    + " is value does value");
            granted("one name", x.about(2), 1);
        }
    }

    static void termI_namesAreNumberedAsTheyComeFirst() {
        taken(4, "desk mixed;rule d is c + b does add;rule b is a does same;"
                + "rule a is value does value;rule c is value does value");
        int[] heads = {0, 2, 3, 1};
        for (int r = 0; r < 4; r++) {
            granted("head of " + r, x.rule(r, 0), heads[r]);
        }
        granted("c came second", x.item(0, 0), 101);
        granted("b came third", x.item(0, 2), 102);
        granted("a came last", x.item(1, 0), 103);
    }

    static void termI_namesAreUpTo6() {
        taken(6, SIX_NAMES);
        granted("six names", x.about(2), 6);
        granted("the last's number", x.item(2, 0), 105);
        faulty(4, SIX_NAMES + ";rule @g is value does value");
        faulty(4, SIX_NAMES + ";rule a is @g does same");
        faulty(4, SIX_NAMES + ";rule a is a + @g does add");
        faulty(4, SIX_NAMES + ";rule f is @ff");
        taken(7, SIX_NAMES + ";rule f is + a does same");
    }

    static void termI_theFirstNameIsStart() {
        // + 0, - 1, value 2, END 3. The first rule's head comes ahead of its items.
        taken(2, "desk mixed;rule b is + a - does same;rule a is value does value");
        granted("END below lead of b", x.relation(3, 0), 1);
        granted("END isn't below lead of a", x.relation(3, 2), 0);
        granted("trail of b above END", x.relation(1, 3), 4);
        granted("trail of a isn't above END", x.relation(2, 3), 0);
        granted("twos with END", x.related(1) * 10 + x.related(4), 22);
    }

    static void termI_terminalsAreNumberedAsTheyComeFirst() {
        taken(2, "desk mixed;rule e is ) e ( e does add;rule e is value does value");
        int[] signs = {')', '(', 0, -2};
        for (int t = 0; t < 4; t++) {
            granted("terminal " + t, x.sign(t), signs[t]);
        }
        granted("terminals", x.about(3), 3);
        taken(1, "desk mixed;rule e is value does value");
        granted("value alone", x.sign(0), 0);
        granted("END behind it", x.sign(1), -2);
    }

    static void termI_terminalsAreUpTo11() {
        taken(3, ELEVEN_SIGNS);
        granted("eleven", x.about(3), 11);
        granted("the eleventh", x.sign(10), '~');
        granted("END is the one behind them", x.sign(11), -2);
        refused("none behind END", x.sign(12), 1);
        faulty(4, ELEVEN_SIGNS + ";rule a is @=");
        faulty(4, ELEVEN_SIGNS + ";rule a is a @| does same");
        faulty(4, ELEVEN_SIGNS + ";rule a is @value does value");
        taken(4, ELEVEN_SIGNS + ";rule a is ~ + ] [ a does same");
        String ten = ELEVEN_SIGNS.replace(" ~", "");
        taken(4, ten + ";rule a is value does value");
        granted("the eleventh is value", x.sign(10), 0);
        faulty(4, ten + ";rule a is value does value;rule a is @~ a does same");
    }

    // ---- fault 1

    private static final String[] TOKENS = {
        "desk", "rule", "is", "does", "value", "mixed", "whole", "real", "add", "less", "times",
        "over", "minus", "same", "e", "zzzzzz", "+", "|", ";",
    };

    private static boolean isName(String token) {
        return Character.isLetter(token.charAt(0)) && !isOneOf(token, NO_NAMES);
    }

    private static boolean isItem(String token) {
        return isName(token) || SIGNS.contains(token) || token.equals("value");
    }

    /** Whether a grammar goes on with the token behind that many tokens of a line. */
    private static boolean goesOn(int behind, String token) {
        switch (behind) {
            case 0: return isOneOf(token, "desk", "rule");
            case 1: return isOneOf(token, KINDS);
            case 2: return isName(token);
            case 3: return token.equals("is");
            case 4: return isItem(token);
            case 5: return isItem(token) || token.equals("does");
            case 6: return isOneOf(token, DEEDS);
            default: return token.equals(";");
        }
    }

    private static final String[] HEADS = {
        "", "desk", "desk mixed;rule", "desk mixed;rule e", "desk mixed;rule e is",
        "desk mixed;rule e is +", "desk mixed;rule e is + e does", "desk mixed",
        "desk mixed;rule e is + e does same", "desk mixed;" + VALUE_RULE,
    };

    static void termI_fault1AtTheTokenWithWhichNoGrammarGoesOn() {
        for (int behind = 0; behind < HEADS.length; behind++) {
            for (String token : TOKENS) {
                String head = HEADS[behind] + (HEADS[behind].isEmpty() ? "" : " ");
                if (!goesOn(behind, token)) {
                    faultyAt(1, head + token + " ", head.length());
                    faultyAt(1, head + token + " ;rule $", head.length());
                } else {
                    fresh();
                    grammar(head + token);
                    isTrue(head + token + " has no form fault at its last token",
                            x.fault() != 1 || x.where() != head.length());
                }
            }
        }
    }

    static void termI_fault1BehindTheFirstItem() {
        for (String token : TOKENS) {
            String head = "desk mixed;rule e is e ";
            if (!goesOn(5, token)) {
                faultyAt(1, head + token, head.length());
            } else if (isName(token)) {
                faultyAt(3, head + token, head.length());
            }
        }
    }

    static void termI_fault1AtTheFirstByteThatBeginsNoToken() {
        for (String head : HEADS) {
            for (String no : new String[] {"?", "\0", "\t", "A", "0", "\u00ff", "\u00a0", "{", "`"}) {
                faultyAt(1, head + no, head.length());
                faultyAt(1, head + "  " + no + "  desk", head.length() + 2);
            }
            faultyAt(1, head + " abcdefg", head.length() + 1);
        }
    }

    static void termI_fault1AtTheEndHasItsPlace() {
        for (int behind = 0; behind < 7; behind++) {
            faultyAt(1, HEADS[behind], HEADS[behind].length());
            faultyAt(1, HEADS[behind] + "   ", HEADS[behind].length() + 3);
        }
        faulty(1, "desk mixed;@");
        faulty(1, "desk mixed;" + VALUE_RULE + ";   @");
    }

    // ---- fault 2

    private static final String[] BY_NAMES = {"+", "+ e", "e + e", "e + e + e"};

    static void termI_fault2OfADeedThatDoesNotGoWithItsNames() {
        for (int deed = 0; deed < 8; deed++) {
            for (int names = 0; names < 4; names++) {
                String head = "desk mixed;rule e is " + BY_NAMES[names] + " does   ";
                if (names == (deed < 4 ? 2 : 1)) {
                    taken(2, head + DEEDS[deed] + ";" + VALUE_RULE);
                    granted(DEEDS[deed], x.rule(0, 2), deed);
                } else {
                    faulty(2, head + "@" + DEEDS[deed] + ";" + VALUE_RULE);
                }
            }
            faulty(2, "desk mixed;rule e is value does @" + DEEDS[deed]);
        }
    }

    static void termI_fault2CountsItemsNotTheHead() {
        taken(3, "desk mixed;rule e is e + t does add;" + VALUE_RULE + ";rule t is e does same");
        faulty(2, "desk mixed;rule e is t does @add");
        faulty(2, "desk mixed;rule e is value + t does @less");
        taken(2, "desk mixed;rule e is value + e does minus;" + VALUE_RULE);
        taken(2, "desk mixed;rule e is e value e does over;" + VALUE_RULE);
    }

    static void termI_fault2OfValueWithMoreOrLessThanTheItemValue() {
        taken(1, "desk mixed;rule e is value does value");
        for (String items : new String[] {"value value", "value +", "+ value", "+", "e", "value e",
            "e value", "e + e", "( value )"}) {
            faulty(2, "desk mixed;rule e is " + items + " does @value;" + VALUE_RULE);
        }
    }

    // ---- fault 3

    static void termI_fault3OfANameRightBehindAnother() {
        faulty(3, "desk mixed;rule e is e @e does add");
        faulty(3, "desk mixed;rule e is e   @t does add");
        faulty(3, "desk mixed;rule e is + e @t does add");
        faulty(3, "desk mixed;rule e is + - * e @t");
        faulty(3, "desk mixed;rule e is e + t @e ?");
        taken(2, "desk mixed;rule e is e value e does add;" + VALUE_RULE);
        taken(2, "desk mixed;rule e is e does same;" + VALUE_RULE);
        taken(3, "desk mixed;rule e is + t does same;rule t is t does same;" + VALUE_RULE);
    }

    // ---- fault 5

    static void termI_fault5OfARuleAheadOfTheDesk() {
        faulty(5, "@" + VALUE_RULE);
        faulty(5, "   @" + VALUE_RULE + ";desk mixed");
        faulty(5, "@rule");
        faulty(5, "@rule ? ?");
        faulty(5, "@rule desk");
    }

    static void termI_fault5AtTheEnd() {
        faulty(5, "desk mixed@");
        faulty(5, "desk mixed    @");
        faulty(5, "desk mixed;rule e is t does same@");
        faulty(5, "desk mixed;rule e is t does same  @");
        faulty(5, "desk mixed;rule e is + t does same;" + VALUE_RULE + "@");
        faulty(5, "desk mixed;" + VALUE_RULE + ";rule e is + e - f does add@");
        faulty(5, SIX_NAMES.replace(";rule f is value does value", "") + "@");
        taken(2, "desk mixed;rule e is t does same;rule t is e does same");
    }

    // ---- fault 6

    static void termI_fault6OfASecondDesk() {
        faulty(6, "desk mixed;@desk mixed;" + VALUE_RULE);
        faulty(6, "desk mixed;  @desk whole;" + VALUE_RULE);
        faulty(6, "desk mixed;@desk");
        faulty(6, "desk mixed;@desk ?");
        faulty(6, "desk mixed;" + VALUE_RULE + ";@desk mixed");
        faulty(6, "desk mixed;rule e is t does same;@desk mixed");
        faulty(6, rules(12, VALUE_RULE) + ";@desk mixed");
    }

    // ---- which fault

    static void termI_theFirstFaultFromTheLeft() {
        faulty(5, "@rule e is abcdefg");
        faulty(6, "desk mixed;@desk;rule e e e");
        faulty(2, "desk mixed;rule e is e does @add ?");
        faulty(2, "desk mixed;rule e is t does @add;desk mixed");
        faulty(3, "desk mixed;rule e is e @e;?");
        faulty(4, "desk mixed;rule e is + + + + + @+ does add;desk");
        faulty(1, "desk mixed;rule e @? e e;desk");
        faulty(1, "desk mixed;rule e is e does same;@;desk");
        faulty(4, SIX_NAMES + ";rule @g is g g");
        faulty(3, SIX_NAMES + ";rule a is a @b does nothing");
    }

    static void termI_ofOnePlaceTheLeastNumber() {
        faulty(1, "@");
        faulty(1, "desk@");
        faulty(1, "desk mixed;@");
        faulty(1, "desk mixed;rule e is + t does@");
        faulty(3, "desk mixed;rule e is + - * / e @e does same");
        faulty(3, SIX_NAMES + ";rule a is a @g does add");
        faulty(3, SIX_NAMES + ";rule a is + - * / a @g");
        faulty(1, "desk mixed;rule e is + - * / + @is");
        faulty(1, "desk mixed;rule e is + - * / + @abcdefg");
        faulty(1, "desk mixed;rule e is + - * / + @;");
        faulty(1, "desk mixed;rule e is e @abcdefg");
        faulty(1, SIX_NAMES + ";rule @value is");
        faulty(1, rules(12, VALUE_RULE) + ";@rules e");
        faulty(1, rules(12, VALUE_RULE) + ";@");
        faulty(1, "desk mixed;@desks mixed");
        faulty(1, "desk mixed;rule e is e does @e");
        faulty(1, "@rules e is e");
    }
}
