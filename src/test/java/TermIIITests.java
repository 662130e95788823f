/** Term III: the bounds of a formula, how it is read and reckoned, fails 1 to 7 with their places. */
public final class TermIIITests extends Bench {
    private static final String SIGNS = "+-*/^()[]!~=&|";
    private static final String SIXTY = "~1" + "+1".repeat(29);

    public static void main(String[] args) {
        runAll(TermIIITests.class);
    }

    private static void counts(String what, int tokens, int steps, int reduced, int most) {
        granted(what + ": tokens", x.read(1), tokens);
        granted(what + ": steps", x.read(2), steps);
        granted(what + ": reduced", x.read(3), reduced);
        granted(what + ": most", x.read(4), most);
    }

    // ---- tokens

    static void termIII_wholesHave1To4Digits() {
        stand(ALL_DEEDS);
        isWhole("0", 0);
        isWhole("9", 9);
        isWhole("9999", 9999);
        isWhole("0000", 0);
        isWhole("0070", 70);
        fails(1, "@12345");
        fails(1, "@00000");
        fails(1, "1 + @123456789012345 + 1");
        fails(3, "1234 @5", 0);
        counts("1234 5", 2, 1, 0, 1);
    }

    static void termIII_realsHave1To4DigitsAPointAnd1To3() {
        stand(ALL_DEEDS);
        isReal("0.0", 0f);
        isReal("9999.999", 9999999 / 1000f);
        isReal("0001.500", 1500 / 1000f);
        isReal("0000.000", 0f);
        for (String no : new String[] {"@12345.1", "@1.2345", "@1.", "@12.+3", "@1. 5", "1 @.5", "@.5",
            "1.2@.3", "1.5@.", "@1..2", "@9999.9999", "@12345.6789", "@12.a", "3 + @1.0000 + 2"}) {
            fails(1, no, 0);
            counts(no, 0, 0, 0, 0);
        }
        fails(3, "1.2 @3", 0);
    }

    static void termIII_aRealIsItsDigitsAsAFloatByTenAHundredOrAThousand() {
        for (int digits = 1; digits < 10000; digits += 7) {
            stand(ALL_DEEDS);
            String four = String.valueOf(10000 + digits).substring(1);
            isReal(four.charAt(0) + "." + four.substring(1), (float) digits / 1000f);
            isReal(four.substring(0, 2) + "." + four.substring(2), (float) digits / 100f);
            isReal(four.substring(0, 3) + "." + four.substring(3), (float) digits / 10f);
        }
        stand(ALL_DEEDS);
        isReal("8191.991", (float) 8191991 / 1000f);
        isReal("9876.54", (float) 987654 / 100f);
    }

    static void termIII_noOtherByteBeginsAToken() {
        for (int b = 0; b < 256; b++) {
            stand(ALL_DEEDS);
            boolean isToken = b >= '0' && b <= '9' || SIGNS.indexOf(b) >= 0;
            say("1 + " + (char) b, 0);
            int place = x.where();
            if (isToken || b == ' ') {
                isTrue("byte " + b + " is taken", x.read(0) != 1);
                granted("tokens with byte " + b, x.read(1), isToken ? 3 : 2);
            } else {
                due("place of byte " + b, place, 4);
                granted("byte " + b + " begins no token", x.read(0), 1);
                granted("tokens with byte " + b, x.read(1), 0);
            }
        }
    }

    static void termIII_blanksPartTokensAndMeanNothingElse() {
        stand(ALL_DEEDS);
        reads("1+2", 6);
        reads("   1   +   2   ", 6);
        isWhole(" 12 + 34 ", 46);
        fails(4, "1 +    @");
        fails(4, "     @");
        fails(3, "12 @34", 0);
    }

    static void termIII_tokensAreUpTo60() {
        stand(ALL_DEEDS);
        reads(SIXTY, 120);
        counts("sixty", 60, 120, 60, 2);
        granted("its value", x.value(1), 28);
        reads(SIXTY + "   ", 120);
        fails(1, SIXTY + "@+");
        counts("sixty-one", 0, 0, 0, 0);
        stand(ALL_DEEDS);
        fails(1, SIXTY + "  @+1");
        fails(1, SIXTY + "@+1+1");
        fails(1, SIXTY + "@$");
        fails(1, SIXTY + " @+ $");
        fails(1, SIXTY + " @^");
        fails(1, SIXTY + " @12345");
        fails(1, SIXTY.substring(1) + "+@$");
    }

    static void termIII_aFormulaOf900Bytes() {
        stand(ALL_DEEDS);
        isWhole(spread("1+", "4321", 900), 4322);
        fails(4, spread("1+", "@", 901));
        fails(1, spread("1+", "@$", 901));
        fails(6, spread("1/0", "@", 901));
    }

    // ---- the stack

    static void termIII_theStackHas15TerminalsButEnd() {
        stand(ALL_DEEDS);
        reads("(".repeat(14) + "1" + ")".repeat(14), 44);
        counts("fifteen", 29, 44, 15, 15);
        fails(7, "(".repeat(15) + "@1" + ")".repeat(15));
        counts("sixteen", 31, 15, 0, 15);
        fails(7, "(".repeat(15) + "@(");
        reads("~".repeat(14) + "1", 30);
        fails(7, "~".repeat(15) + "@1");
        stand(ALL_DEEDS);
        reads("1+" + "(".repeat(13) + "1" + ")".repeat(13), 45);
        fails(7, "1+" + "(".repeat(14) + "@1");
        counts("what was reduced isn't on it", 17, 17, 1, 15);
    }

    static void termIII_deepOfOneThatIsLike() {
        stand("desk mixed;rule e is ( ! e does same;" + VALUE_RULE);
        reads("(!".repeat(7) + "1", 23);
        counts("fifteen", 15, 23, 8, 15);
        fails(7, "(!".repeat(7) + "(@!1");
        counts("sixteen", 17, 15, 0, 15);
    }

    static void termIII_fifteenSignsBehindTheirValueAreNotDeep() {
        stand(BEHIND);
        reads("1" + "!".repeat(59), 120);
        counts("one at a time", 60, 120, 60, 1);
        granted("its value", x.value(1), -1);
    }

    static void termIII_valuesRightAheadBetweenAndBehindAreTakenOff() {
        stand("desk mixed;rule s is e [ e ] does less;" + VALUE_RULE);
        reads("5[3]", 7);
        granted("ahead less between", x.value(1), 2);
        granted("first", x.node(2, 0), 0);
        granted("second", x.node(2, 1), 1);
        fails(4, "5[]@");
        fails(4, "[3]@");
        stand("desk mixed;rule s is ( e ) e does less;" + VALUE_RULE);
        reads("(5)3", 7);
        granted("between less behind", x.value(1), 2);
        fails(4, "()3@");
        fails(4, "(5)@");
    }

    static void termIII_theFirstRuleThatIsNotAside() {
        stand("desk mixed;rule e is ( e ) does minus;rule e is ( e ) does same;" + VALUE_RULE);
        isWhole("(5)", -5);
        granted("the first", x.reduced(1), 0);
        x.aside(0, 1);
        isWhole("(5)", 5);
        granted("the second", x.reduced(1), 1);
        x.aside(1, 1);
        fails(3, "@(5)");
        x.aside(0, 0);
        isWhole("(5)", -5);
        granted("the first again", x.reduced(1), 0);
    }

    // ---- nodes

    static void termIII_nodesAndTheirDepth() {
        stand(ALL_DEEDS);
        // 1, 2, ~ of it, 3, * of both, + of all: nodes 0 to 5.
        reads("1+~2*3", 12);
        int[][] nodes = {
            {-2, -2, 1, 0, 1}, {-2, -2, 1, 0, 2}, {1, -2, 2, 0, -2},
            {-2, -2, 1, 0, 3}, {2, 3, 3, 0, -6}, {0, 4, 4, 0, -5}};
        for (int i = 0; i < 6; i++) {
            for (int what = 0; what < 5; what++) {
                granted("node " + i + " " + what, x.node(i, what), nodes[i][what]);
            }
        }
    }

    static void termIII_sixtyNodesOneUnderTheOther() {
        stand(BEHIND);
        reads("1" + "!".repeat(59), 120);
        granted("the first's depth", x.node(0, 2), 1);
        granted("the last's depth", x.node(59, 2), 60);
        granted("the last's first", x.node(59, 0), 58);
        granted("all under it: itself", x.under(59, 0), 59);
        granted("all under it: the last", x.under(59, 59), 0);
        refused("no more", x.under(59, 60), 1);
        refused("no sixty-first", x.node(60, 0), MIN, 1);
        refused("no sixty-first reduced", x.reduced(60), 1);
    }

    // ---- deeds

    static void termIII_wholesWrap() {
        stand(ALL_DEEDS);
        isWhole("1024*1024*2048", MIN);
        isWhole("1024*1024*2048-1", MAX);
        isWhole("1024*1024*2048-1+1", MIN);
        isWhole("~(1024*1024*2048)", MIN);
        isWhole("1024*1024*2048/~1", MIN);
        isWhole("1024*1024*2048+1024*1024*2048", 0);
        isWhole("1024*1024*4096", 0);
        isWhole("9999*9999*9999", 9999 * 9999 * 9999);
    }

    static void termIII_wholesOverWholesCutTowards0() {
        stand(ALL_DEEDS);
        isWhole("7/2", 3);
        isWhole("~7/2", -3);
        isWhole("7/~2", -3);
        isWhole("~7/~2", 3);
        isWhole("0/5", 0);
        isWhole("7/1", 7);
        isWhole("7/~1", -7);
        isWhole("7/7", 1);
        isWhole("6/7", 0);
    }

    static void termIII_wholeOver0IsZero() {
        stand(ALL_DEEDS);
        fails(6, "1/0@");
        counts("1/0", 3, 5, 2, 2);
        fails(6, "0/0@");
        fails(6, "1/0 @+ 2");
        fails(6, "(1/0@)");
        fails(6, "1024*1024*2048/(1-1)@");
        fails(6, "1/[0.9]@");
        isWhole("0/1", 0);
    }

    static void termIII_realsOver0AreFloats() {
        stand(ALL_DEEDS);
        isReal("1.0/0", Float.POSITIVE_INFINITY);
        isReal("1/0.0", Float.POSITIVE_INFINITY);
        isReal("1/~0.0", Float.NEGATIVE_INFINITY);
        isReal("~1.5/0.0", Float.NEGATIVE_INFINITY);
        isReal("0.0/0.0", Float.NaN);
        isReal("0/0.0", Float.NaN);
        isReal("~(0/0.0)", Float.NaN);
        isReal("1/0.0-1/0.0", Float.NaN);
        isReal("0*(1/0.0)", Float.NaN);
        isReal("5/(1/0.0)", 0f);
    }

    static void termIII_elseAsFloatsWholesCast() {
        stand(ALL_DEEDS);
        isReal("1+2.5", 3.5f);
        isReal("2.5-1", 1.5f);
        isReal("3*1.5", 4.5f);
        isReal("7/2.0", 3.5f);
        // 16777217 is no float: it is cast to the even one below.
        isReal("4096*4096+1+0.0", 16777216f);
        isReal("0.0+(4096*4096+3)", 16777220f);
        isReal("1024*1024*2048*1.0", -2147483648f);
        isReal("0.1+0.2", 1 / 10f + 2 / 10f);
    }

    private static final float INFINITE = Float.POSITIVE_INFINITY;

    static void termIII_sumsOfFloatsAtTheirEdges() {
        stand(ALL_DEEDS);
        isReal("~0.0+~0.0", -0f);
        isReal("~0.0+0.0", 0f);
        isReal("0.0+~0.0", 0f);
        isReal("0.0-0.0", 0f);
        isReal("~0.0-0.0", -0f);
        isReal("0.0-~0.0", 0f);
        isReal("1.5-1.5", 0f);
        isReal("~1.5+1.5", 0f);
        isReal("1.5-4", -2.5f);
        stand(ALL_DEEDS);
        isReal("1/0.0+1", INFINITE);
        isReal("1+1/0.0", INFINITE);
        isReal("1-1/0.0", -INFINITE);
        isReal("1/0.0+1/0.0", INFINITE);
        isReal("1/0.0-1", INFINITE);
        isReal("~1/0.0-1/0.0", -INFINITE);
        isReal("~1/0.0+1/0.0", Float.NaN);
        isReal("0/0.0+1", Float.NaN);
        isReal("1+0/0.0", Float.NaN);
        isReal("1/0.0-0/0.0", Float.NaN);
        isReal("0/0.0-1/0.0", Float.NaN);
    }

    static void termIII_productsOfFloatsAtTheirEdges() {
        stand(ALL_DEEDS);
        isReal("0.0*5", 0f);
        isReal("5*0.0", 0f);
        isReal("~0.0*5", -0f);
        isReal("5*~0.0", -0f);
        isReal("~0.0*~5", 0f);
        isReal("(1/0.0)*2", INFINITE);
        isReal("2*(1/0.0)", INFINITE);
        isReal("(1/0.0)*~2", -INFINITE);
        isReal("(1/0.0)*(1/0.0)", INFINITE);
        stand(ALL_DEEDS);
        isReal("(1/0.0)*0.0", Float.NaN);
        isReal("(1/0.0)*0", Float.NaN);
        isReal("0.0*(1/0.0)", Float.NaN);
        isReal("(0/0.0)*2", Float.NaN);
        isReal("2*(0/0.0)", Float.NaN);
        isReal("(0/0.0)*(1/0.0)", Float.NaN);
        isReal("0.0*(0/0.0)", Float.NaN);
    }

    static void termIII_quotientsOfFloatsAtTheirEdges() {
        stand(ALL_DEEDS);
        isReal("0.0/5", 0f);
        isReal("~0.0/5", -0f);
        isReal("0.0/~5", -0f);
        isReal("5/(1/0.0)", 0f);
        isReal("~5/(1/0.0)", -0f);
        isReal("0.0/(1/0.0)", 0f);
        isReal("1/0.0/5", INFINITE);
        isReal("1/0.0/~5", -INFINITE);
        isReal("1/0.0/0", INFINITE);
        stand(ALL_DEEDS);
        isReal("(1/0.0)/(1/0.0)", Float.NaN);
        isReal("0/0.0/2", Float.NaN);
        isReal("2/(0/0.0)", Float.NaN);
        isReal("(1/0.0)/(0/0.0)", Float.NaN);
        isReal("0/0.0/(1/0.0)", Float.NaN);
        isReal("0/0.0/0", Float.NaN);
        isReal("0.0/(0/0.0)", Float.NaN);
    }

    static void termIII_theGreatestFloatAndTheNext() {
        stand(ALL_DEEDS);
        String most = "=(4096*4096-1)" + "*4096".repeat(8) + "*256";
        isReal(most, Float.MAX_VALUE);
        isReal("~" + most, -Float.MAX_VALUE);
        isReal(most + "*1.5", INFINITE);
        isReal("~" + most + "*1.5", -INFINITE);
        isReal(most + "/2", Float.MAX_VALUE / 2);
        isReal(most + "+1", Float.MAX_VALUE);
        isReal("(" + most + ")+(" + most + ")", INFINITE);
        isReal("~(" + most + ")-(" + most + ")", -INFINITE);
        isReal("1/(" + most + ")", 1 / Float.MAX_VALUE);
    }

    static void termIII_theLeastFloatsAndZero() {
        stand(ALL_DEEDS);
        String normal = "1.0" + "/4096".repeat(10) + "/64";
        isReal(normal, Float.MIN_NORMAL);
        isReal(normal + "/2", Float.MIN_NORMAL / 2);
        isReal(normal + "/3", Float.MIN_NORMAL / 3);
        isReal("~(" + normal + ")/3", -Float.MIN_NORMAL / 3);
        isReal(normal + "*3", Float.MIN_NORMAL * 3);
        String least = "1.0" + "/4096".repeat(12) + "/32";
        isReal(least, Float.MIN_VALUE);
        isReal("~" + least, -Float.MIN_VALUE);
        isReal(least + "*7/2", Float.MIN_VALUE * 7 / 2);
        isReal(least + "*0.5", 0f);
        stand(ALL_DEEDS);
        isReal(least + "*0.501", Float.MIN_VALUE);
        isReal(least + "*~0.5", -0f);
        isReal(least + "/2*2", 0f);
        isReal(least + "*4096*4096*4096", Float.MIN_VALUE * 4096 * 4096 * 4096);
        isReal("1/(" + least + ")", INFINITE);
        isReal(least + "-1", -1f);
        isReal("(" + least + ")-(" + least + ")", 0f);
    }

    static void termIII_minusIsOfItsKind() {
        stand(ALL_DEEDS);
        isWhole("~5", -5);
        isWhole("~0", 0);
        isReal("~5.0", -5f);
        isReal("~0.0", -0f);
        isReal("~~0.0", 0f);
    }

    static void termIII_wholeIsACastToInt() {
        stand(ALL_DEEDS);
        isWhole("[5]", 5);
        isWhole("[2.999]", 2);
        isWhole("[~2.999]", -2);
        isWhole("[~0.0]", 0);
        isWhole("[9999.0*9999.0*9999.0]", MAX);
        isWhole("[~9999.0*9999.0*9999.0]", MIN);
        isWhole("[1.0/0]", MAX);
        isWhole("[~1.0/0]", MIN);
        isWhole("[0.0/0]", 0);
    }

    static void termIII_realIsACastToFloat() {
        stand(ALL_DEEDS);
        isReal("=5", 5f);
        isReal("=2.5", 2.5f);
        isReal("=0", 0f);
        isReal("=(4096*4096+1)", 16777216f);
        isReal("=(1024*1024*2048-1)", 2147483648f);
    }

    static void termIII_sameIsIt() {
        stand(ALL_DEEDS);
        isWhole("(5)", 5);
        isReal("(~0.0)", -0f);
        isReal("(0.0/0)", Float.NaN);
    }

    // ---- kinds

    static void termIII_aWholeDeskHasNoReals() {
        stand(ALL_DEEDS);
        x.kind(1);
        fails(5, "1.5@");
        counts("1.5", 1, 1, 0, 1);
        fails(5, "1.5 @+ 2");
        fails(5, "1 + 0.0@");
        fails(5, "[1.5@]");
        fails(5, "=1@");
        counts("=1", 2, 3, 1, 2);
        isWhole("[7]/2", 3);
        fails(6, "1/0@");
    }

    static void termIII_aRealDeskHasNoWholes() {
        stand(ALL_DEEDS);
        x.kind(2);
        fails(5, "1@");
        fails(5, "1 @+ 2.5");
        fails(5, "1.5 + 2@");
        fails(5, "=1@");
        fails(5, "[1.5]@");
        counts("[1.5]", 3, 4, 1, 2);
        isReal("=1.5+~2.0", -0.5f);
        isReal("1.0/0.0", Float.POSITIVE_INFINITY);
        fails(5, "1@/0");
    }

    static void termIII_aMixedDeskHasBoth() {
        stand(ALL_DEEDS);
        isReal("1+1.5", 2.5f);
        isWhole("[1.5]+1", 2);
        isReal("=1", 1f);
    }

    // ---- what fails

    static void termIII_fail1IsLookedForAheadOfAll() {
        stand(ALL_DEEDS);
        fails(1, "^ | & ! @$");
        counts("none is on the stack", 0, 0, 0, 0);
        fails(1, "1 2 3 ) @;");
        fails(1, "1/0 + @a");
        fails(1, "(".repeat(20) + "@.5");
        x.kind(1);
        fails(1, "1.5 + @1.");
    }

    static void termIII_fail2AsItIsNext() {
        stand(ALL_DEEDS);
        fails(2, "@^");
        fails(2, "1 @^");
        counts("1 ^", 2, 1, 0, 1);
        fails(2, "1 + @| 2");
        fails(2, "1/0 @^");
        fails(2, "(".repeat(15) + "@!");
        fails(6, "1/0 @+ ^");
        fails(3, "1 @2 ^", 0);
        x.kind(1);
        fails(2, "1.5 @&");
    }

    static void termIII_fail2OfAnOperandWithoutTheTerminalValue() {
        stand("desk mixed;rule e is + e does same");
        fails(2, "@1");
        fails(2, "+ + @1.5");
        counts("+ + 1.5", 3, 2, 0, 2);
    }

    static void termIII_terminalsOfRulesAsideAreNotStrange() {
        stand(SUMS);
        x.aside(4, 1);
        fails(3, "@(1)");
        fails(2, "@[1]");
    }

    static void termIII_fail3OfNoRelation() {
        stand(SUMS);
        fails(3, "@)");
        counts(")", 1, 0, 0, 0);
        fails(3, "1@)");
        counts("1)", 2, 2, 1, 1);
        fails(3, "(1@");
        counts("(1", 2, 3, 1, 2);
        fails(3, "1 @2", 0);
        fails(3, "1 @(", 0);
        fails(3, "(1) @(2)", 0);
    }

    static void termIII_fail3ByFunctionsIsLikeWithEnd() {
        // F of END is 0, G of ) 0, F of ( 0, G of END 0; G of ( is more than F of value.
        stand(SUMS);
        fails(3, "@)", 1);
        fails(3, "1 (@", 1);
        counts("1 (", 2, 2, 0, 2);
        fails(3, "(@");
        fails(3, "((1)@");
    }

    static void termIII_fail4OfNoRule() {
        stand(SUMS);
        fails(4, "@");
        counts("nothing", 0, 0, 0, 0);
        fails(4, "()@");
        counts("()", 2, 2, 0, 2);
        fails(4, "+@");
        counts("+", 1, 1, 0, 1);
        fails(4, "1+@");
        counts("1+", 2, 3, 1, 1);
        fails(4, "1 + @)");
        fails(4, "1 * @+ 2");
        fails(4, "1 2@", 1);
        counts("1 2 by functions", 2, 3, 1, 2);
        stand(rules(11, VALUE_RULE) + ";rule e is + e does minus");
        reads("+5", 4);
        fails(4, "+@");
        fails(4, "5+@", 1);
    }

    static void termIII_failsHaveThePlaceOfTheTokenNext() {
        stand(ALL_DEEDS);
        fails(4, "(1 + @) * 3");
        fails(6, "(1 / 0   @) * 3");
        fails(6, "1 / 0     @");
        fails(7, "(".repeat(15) + "   @123");
        x.kind(1);
        fails(5, "(1.5   @) * 3");
    }

    static void termIII_aStepThatFailsIsNotCounted() {
        stand(ALL_DEEDS);
        fails(3, "1 @2", 0);
        granted("none", x.read(2), 1);
        fails(4, "1 + @)");
        granted("no rule", x.read(2), 3);
        fails(6, "1/0@");
        granted("zero", x.read(2), 5);
        granted("zero makes no node", x.read(3), 2);
        fails(7, "(".repeat(15) + "@(");
        granted("deep", x.read(2), 15);
        granted("deep isn't on the stack", x.read(4), 15);
        x.kind(1);
        fails(5, "1 + 1.5@");
        granted("kind", x.read(2), 4);
        granted("kind makes no node", x.read(3), 1);
    }
}
