/** Term IV: trouble, the order in which refusals are met, how many acts are kept. */
public final class TermIVTests extends Bench {
    public static void main(String[] args) {
        runAll(TermIVTests.class);
    }

    /** Calls of which a number is told, each granted on a desk of SUMS with a formula of one value. */
    private static final Call[] GRANTED = {
        () -> x.about(3), () -> x.rule(5, 3), () -> x.item(0, 2), () -> x.sign(5), () -> x.edge(2, 1),
        () -> x.relation(5, 5), () -> x.related(4), () -> x.clashes(), () -> x.doubles(),
        () -> x.function(5, 1), () -> x.highest(), () -> x.hidden(4), () -> x.knotted(),
        () -> x.ring(), () -> x.read(4), () -> x.reduced(0), () -> x.node(0, 4),
        () -> x.under(0, 0), () -> x.value(2), () -> x.third(), () -> x.otherwise(),
        () -> x.later(), () -> x.aside(0, 1), () -> x.kind(2), () -> x.undo() ? 1 : 0,
    };

    /** Each refused by 1 on a new desk; what else may be wrong with them comes behind it. */
    private static final Call[] WITHOUT_GRAMMAR = {
        () -> x.about(0), () -> x.about(9), () -> x.rule(0, 0), () -> x.item(0, 0), () -> x.sign(0),
        () -> x.edge(0, 0), () -> x.relation(0, 0), () -> x.related(1), () -> x.related(3),
        () -> x.clashes(), () -> x.clash(0), () -> x.doubles(), () -> x.function(0, 0),
        () -> x.highest(), () -> x.hidden(1), () -> x.hidden(3), () -> x.knotted(), () -> x.ring(),
        () -> x.ringAt(0), () -> x.formula(0, 0), () -> x.formula(1, 0), () -> x.formula(-1, 9),
        () -> x.read(0), () -> x.reduced(0), () -> x.under(0, 0), () -> x.otherwise(),
        () -> x.later(), () -> x.aside(0, 1), () -> x.aside(0, 9), () -> x.kind(0), () -> x.kind(9),
    };

    static void termIV_aNewDeskHasNoTrouble() {
        fresh();
        due("trouble", x.trouble(), 0);
        due("where", x.where(), NONE);
    }

    static void termIV_aGrantedCallHasTrouble0() {
        for (int i = 0; i < GRANTED.length; i++) {
            stand(SUMS);
            x.kind(0);
            say("7", 0);
            refused("ahead of call " + i, x.related(3), 2);
            isTrue("call " + i + " is granted", GRANTED[i].ask() != NONE);
            due("trouble of call " + i, x.trouble(), 0);
            due("where of call " + i, x.where(), NONE);
        }
        stand(CLASHING);
        x.related(3);
        granted("clash", x.clash(0), 0);
        x.related(3);
        granted("ringAt", x.ringAt(1), 16);
        x.related(3);
        granted("grammar", grammar(SUMS), 6);
        x.related(3);
        granted("formula", say("7", 1), 2);
    }

    static void termIV_1ComesFirstWithoutAGrammar() {
        for (int i = 0; i < WITHOUT_GRAMMAR.length; i++) {
            fresh();
            refused("ahead of call " + i, x.grammar(1), 2);
            refused("call " + i, WITHOUT_GRAMMAR[i].ask(), 1);
        }
        fresh();
        refused("node", x.node(0, 0), MIN, 1);
        refused("node 9", x.node(0, 9), MIN, 1);
        refused("value", x.value(0), MIN, 1);
        refused("third", x.third(), Long.MIN_VALUE, 1);
        refused("undo", x.undo() ? 1 : 0, 0, 1);
        refused("grammar tells no 1", x.grammar(-1), 2);
    }

    static void termIV_callsWithoutANumberLeaveTheTrouble() {
        fresh();
        withoutNumber(0, NONE);
        x.about(0);
        withoutNumber(1, NONE);
        x.grammar(-1);
        withoutNumber(2, NONE);
        grammar("desk mixed;desk");
        withoutNumber(4, 11);
        stand(CLASHING);
        x.highest();
        withoutNumber(5, NONE);
        stand(SUMS);
        say("1 +", 0);
        withoutNumber(6, 3);
    }

    private static void withoutNumber(int trouble, int place) {
        Call[] calls = {
            () -> x.feed(1, 2, 3, 4, 5), () -> x.fault(), () -> x.where(), () -> x.trouble(),
            () -> x.size(0), () -> x.size(1), () -> x.size(2), () -> x.size(3), () -> x.size(-1),
            () -> barren(0), () -> barren(-1),
        };
        for (int i = 0; i < calls.length; i++) {
            calls[i].ask();
            due("trouble " + trouble + " behind call " + i, x.trouble(), trouble);
            due("place of trouble " + trouble + " behind call " + i, x.where(), place);
        }
        int fed = x.size(0);
        while (fed >= 0 && fed <= 900) {
            fed = x.feed(0, 0, 0, 0, 0) > fed ? fed + 20 : -1;
        }
        due("a refused feed", x.feed(0, 0, 0, 0, 0), NONE);
        due("trouble " + trouble + " behind a refused feed", x.trouble(), trouble);
        due("place behind a refused feed", x.where(), place);
        x.grammar(0);
    }

    static void termIV_refusalsAreMetInTheOrderOfFunctionAndHidden() {
        stand(CLASHING);
        refused("function of none such", x.function(3, 0), 1);
        refused("function of no such what", x.function(0, 2), 1);
        refused("function", x.function(2, 1), 5);
        refused("hidden 3", x.hidden(3), 2);
        refused("hidden 4", x.hidden(4), 5);
    }

    static void termIV_refusalsAreMetInTheOrderOfGrammar() {
        stand(SUMS);
        feed("?");
        refused("2 ahead of 4", x.grammar(21), 2);
        due("4", x.grammar(20), NONE);
        due("4: trouble", x.trouble(), 4);
    }

    static void termIV_refusalsAreMetInTheOrderOfFormula() {
        stand(CLASHING);
        feed("?");
        refused("1 ahead of 2, 5 and 6", x.formula(21, 2), 1);
        refused("2 ahead of 5 and 6", x.formula(21, 0), 2);
        refused("5 ahead of 6, by relations", x.formula(20, 0), 5);
        refused("5 ahead of 6, by functions", x.formula(20, 1), 5);
        x.aside(0, 1);
        due("6", x.formula(20, 0), NONE);
        due("6: trouble", x.trouble(), 6);
        due("6: where", x.where(), 0);
    }

    static void termIV_refusalsAreMetInTheOrderOfOtherwiseAndLater() {
        stand(RINGED);
        refused("otherwise: 1 ahead of 5", x.otherwise(), 1);
        refused("later: 1 ahead of 5", x.later(), 1);
        fails(4, "@", 0);
        refused("otherwise: 5 ahead of 6", x.otherwise(), 5);
        refused("later: 5", x.later(), 5);
    }

    static void termIV_refusalsAreMetInTheOrderOfAsideAndKind() {
        stand(SUMS);
        refused("aside: 1 ahead of 2", x.aside(6, 2), 1);
        refused("aside: 1 ahead of 5", x.aside(6, 0), 1);
        refused("aside: 2", x.aside(0, 2), 2);
        refused("aside: 5", x.aside(0, 0), 5);
        refused("kind: 2", x.kind(3), 2);
    }

    // ---- acts

    private static void undone(String what, boolean is) {
        due(what, x.undo() ? 1 : 0, is ? 1 : 0);
        due(what + ": trouble", x.trouble(), is ? 0 : 1);
        due(what + ": where", x.where(), NONE);
    }

    static void termIV_tenActsAreKept() {
        stand(SUMS);
        for (int i = 1; i <= 10; i++) {
            x.kind(i % 3);
            due("acts", x.size(1), i);
        }
        for (int i = 9; i >= 0; i--) {
            undone("act " + i, true);
            granted("kind behind it", x.about(0), i % 3);
            due("acts left", x.size(1), i);
        }
        undone("no more", false);
        granted("kind as told", x.about(0), 0);
    }

    static void termIV_theEleventhActForgetsTheFirst() {
        stand(SUMS);
        granted("the first", x.aside(0, 1), 1);
        for (int i = 2; i <= 10; i++) {
            x.kind(1);
        }
        due("ten", x.size(1), 10);
        granted("the eleventh", x.aside(1, 1), 2);
        due("ten are kept", x.size(1), 10);
        undone("the eleventh", true);
        granted("rule 1 is no more aside", x.rule(1, 3), 0);
        for (int i = 9; i >= 1; i--) {
            due("left", x.size(1), i);
            undone("one more", true);
        }
        undone("the first isn't kept", false);
        granted("rule 0 is aside", x.rule(0, 3), 1);
        granted("the kind as it was told", x.about(0), 0);
        due("one is aside", x.size(2), 1);
    }

    static void termIV_twentySixActs() {
        stand(SUMS);
        for (int i = 1; i <= 26; i++) {
            granted("kind", x.kind(i % 3), (i - 1) % 3);
            due("acts", x.size(1), Math.min(i, 10));
        }
        for (int i = 25; i >= 16; i--) {
            undone("act " + i, true);
            granted("kind behind it", x.about(0), i % 3);
        }
        undone("no more", false);
        granted("kind stays", x.about(0), 16 % 3);
    }

    static void termIV_thirteenActsOfBothSorts() {
        stand(rules(12, VALUE_RULE));
        int[] kinds = new int[14];
        int[] aside = new int[14];
        for (int i = 1; i <= 13; i++) {
            kinds[i] = i % 2 == 0 ? i / 2 % 3 : kinds[i - 1];
            aside[i] = aside[i - 1] | (i % 2 == 1 ? 1 << i / 2 : 0);
            if (i % 2 == 0) {
                x.kind(kinds[i]);
            } else {
                x.aside(i / 2, 1);
            }
        }
        for (int i = 12; i >= 3; i--) {
            undone("act " + i, true);
            granted("kind behind " + i + " acts", x.about(0), kinds[i]);
            int bits = 0;
            for (int r = 0; r < 12; r++) {
                bits |= x.rule(r, 3) << r;
            }
            granted("aside behind " + i + " acts", bits, aside[i]);
        }
        undone("no more", false);
        due("two are aside still", x.size(2), 2);
    }

    static void termIV_theLatestActNotUndoneYet() {
        stand(SUMS);
        x.kind(1);
        x.aside(5, 1);
        undone("aside", true);
        granted("it is no more aside", x.rule(5, 3), 0);
        granted("kind is as it was", x.about(0), 1);
        x.aside(4, 1);
        x.aside(3, 1);
        undone("the second aside", true);
        granted("rule 3", x.rule(3, 3), 0);
        granted("rule 4", x.rule(4, 3), 1);
        undone("the first aside", true);
        granted("rule 4", x.rule(4, 3), 0);
        undone("kind", true);
        granted("kind as told", x.about(0), 0);
        undone("nothing", false);
    }

    static void termIV_undoOfOneNoMoreAside() {
        stand(SUMS);
        x.aside(2, 1);
        x.aside(2, 0);
        due("two acts", x.size(1), 2);
        undone("no more aside", true);
        granted("it is aside again", x.rule(2, 3), 1);
        granted("* has no relation", x.relation(0, 1), 0);
        undone("aside", true);
        granted("it isn't", x.rule(2, 3), 0);
        granted("+ is below *", x.relation(0, 1), 1);
    }

    static void termIV_refusedCallsAreNoActs() {
        stand(SUMS);
        x.aside(6, 1);
        x.aside(0, 2);
        x.aside(0, 0);
        x.kind(3);
        x.kind(-1);
        due("no act", x.size(1), 0);
        undone("nothing", false);
        x.kind(0);
        x.undo();
        x.undo();
        due("undo is no act", x.size(1), 0);
        say("1", 0);
        x.otherwise();
        due("formulas are no acts", x.size(1), 0);
    }

    static void termIV_aGrammarLeavesNothingToUndo() {
        stand(SUMS);
        x.kind(1);
        x.aside(0, 1);
        grammar("desk mixed;");
        due("one with a fault leaves them", x.size(1), 2);
        granted("a grammar", grammar(SUMS), 6);
        due("nothing to undo", x.size(1), 0);
        undone("nothing", false);
        granted("its own kind", x.about(0), 0);
    }
}
