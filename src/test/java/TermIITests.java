/** Term II: lead and trail, relations with END, clashes, functions, the ring, skeletons. */
public final class TermIITests extends Bench {
    /** + 0, - 1, * 2, ( 3, ) 4, value 5, END 6; a 0, b 1, c 2. */
    private static final String FIVE_ITEMS =
            "desk mixed;rule a is + b - c * does add;rule b is c ( ) value does same;"
            + "rule c is value does value";
    /** Two twos of signs are like in the first two rules: F (, G ), F [ and G + are one knot. */
    private static final String KNOT_OF_FOUR =
            "desk mixed;rule e is ( e ) does same;rule e is [ e ) does same;"
            + "rule e is [ f + does same;rule f is ) f does same;rule f is value does value";

    public static void main(String[] args) {
        runAll(TermIITests.class);
    }

    private static int bits(int... terminals) {
        int all = 0;
        for (int t : terminals) {
            all |= 1 << t;
        }
        return all;
    }

    private static void edges(String what, int name, int lead, int trail) {
        granted(what + ": lead", x.edge(name, 0), lead);
        granted(what + ": trail", x.edge(name, 1), trail);
    }

    private static void ring(int... knots) {
        granted("knots of the ring", x.ring(), knots.length);
        for (int i = 0; i < knots.length; i++) {
            granted("knot " + i + " of the ring", x.ringAt(i), knots[i]);
        }
        refused("none behind them", x.ringAt(knots.length), 1);
    }

    // ---- lead and trail

    static void termII_leadIsTheFirstItemOrTheSecondBehindAName() {
        stand(FIVE_ITEMS);
        edges("+ b - c *", 0, bits(0), bits(2));
        edges("c ( ) value", 1, bits(3, 5), bits(5));
        edges("value", 2, bits(5), bits(5));
    }

    static void termII_trailIsTheLastItemOrTheOneAheadOfALastName() {
        // value 0, ( 1, ) 2, [ 3, ] 4.
        stand("desk mixed;rule a is value ( ) c does same;rule c is [ c ] does same;"
                + "rule c is value does value");
        edges("value ( ) c", 0, bits(0), bits(0, 2, 4));
        edges("[ c ] and value", 1, bits(0, 3), bits(0, 4));
    }

    static void termII_leadOfANameAlone() {
        // ( 0, ) 1.
        stand("desk mixed;rule a is b does same;rule b is ( b ) does same");
        edges("b alone", 0, bits(0), bits(1));
        stand("desk mixed;rule a is a does same");
        edges("a is a", 0, 0, 0);
        granted("no relation at all", x.related(1) + x.related(2) + x.related(4), 0);
    }

    static void termII_leadGoesDownSixNames() {
        stand("desk mixed;rule a is b does same;rule b is c does same;rule c is d does same;"
                + "rule d is e does same;rule e is f does same;rule f is value does value");
        for (int name = 0; name < 6; name++) {
            edges("name " + name, name, bits(0), bits(0));
        }
        stand("desk mixed;rule a is b + does same;rule b is c - does same;rule c is d * does same;"
                + "rule d is e / does same;rule e is f ^ does same;rule f is value does value");
        edges("all behind it", 0, bits(0, 1, 2, 3, 4, 5), bits(0));
        edges("two behind it", 4, bits(4, 5), bits(4));
        stand("desk mixed;rule a is + b does same;rule b is - c does same;rule c is * d does same;"
                + "rule d is / e does same;rule e is ^ f does same;rule f is value does value");
        edges("all ahead of it", 0, bits(0), bits(0, 1, 2, 3, 4, 5));
        edges("two ahead of it", 4, bits(4), bits(4, 5));
    }

    static void termII_leadOfNamesThatStandFirstInEachOther() {
        // + 0, - 1.
        stand("desk mixed;rule a is b does same;rule b is a does same;rule b is + a - does same");
        edges("a", 0, bits(0), bits(1));
        edges("b", 1, bits(0), bits(1));
    }

    static void termII_rulesAsideAreNotCounted() {
        stand(FIVE_ITEMS);
        granted("aside", x.aside(2, 1), 1);
        edges("b without value in c", 1, bits(3), bits(5));
        edges("c without rules", 2, 0, 0);
        granted("- isn't below value", x.relation(1, 5), 0);
        granted("+ is below ( alone", x.relation(0, 3) * 10 + x.relation(0, 5), 10);
        granted("like is as it was", x.related(2), 4);
        x.aside(0, 1);
        granted("END is below nothing", x.related(1), 0);
        granted("( like ) is left, ) like value, too", x.related(2), 2);
        x.aside(1, 1);
        granted("nothing is left", x.related(1) + x.related(2) + x.related(4), 0);
        granted("but the terminals", x.about(3), 6);
        x.aside(2, 0);
        x.aside(1, 0);
        x.aside(0, 0);
        granted("all is as it was", x.related(1) * 100 + x.related(2) * 10 + x.related(4), 444);
    }

    // ---- relations

    static void termII_relationsOfFiveItems() {
        stand(FIVE_ITEMS);
        int[][] want = new int[7][7];
        want[0][3] = 1;
        want[0][5] = 1;
        want[1][5] = 1;
        want[6][0] = 1;
        want[0][1] = 2;
        want[1][2] = 2;
        want[3][4] = 2;
        want[4][5] = 2;
        want[2][6] = 4;
        want[5][1] = 4;
        want[5][2] = 4;
        want[5][3] = 4;
        for (int a = 0; a < 7; a++) {
            for (int b = 0; b < 7; b++) {
                granted("relation " + a + " " + b, x.relation(a, b), want[a][b]);
            }
        }
        granted("below", x.related(1), 4);
        granted("like", x.related(2), 4);
        granted("above", x.related(4), 4);
    }

    static void termII_likeIsRightBehindOrBehindOneName() {
        // + 0, - 1, * 2, / 3, ^ 4.
        stand("desk mixed;rule a is + - * a / does same;rule a is ^ a does same");
        granted("right behind", x.relation(0, 1), 2);
        granted("right behind, too", x.relation(1, 2), 2);
        granted("behind one name", x.relation(2, 3), 2);
        granted("two behind", x.relation(0, 2), 0);
        granted("not the other way", x.relation(1, 0), 0);
        granted("not of another rule", x.relation(3, 4), 0);
    }

    static void termII_endIsBelowLeadAndUnderTrailOfStart() {
        stand(SUMS);
        int[] lead = {1, 1, 1, 0, 1, 0};
        int[] trail = {4, 4, 0, 4, 4, 0};
        for (int t = 0; t <= 5; t++) {
            granted("END and " + t, x.relation(5, t), lead[t]);
            granted(t + " and END", x.relation(t, 5), trail[t]);
        }
        x.aside(0, 1);
        x.aside(1, 1);
        for (int t = 0; t <= 5; t++) {
            granted("END and " + t + " without rules of START", x.relation(5, t), 0);
            granted(t + " and END without rules of START", x.relation(t, 5), 0);
        }
    }

    // ---- clashes

    static void termII_aClashIsMoreThanOneRelation() {
        stand("desk mixed;rule e is + f - does same;rule f is - f * does same;"
                + "rule f is value does value");
        granted("below and like", x.relation(0, 1), 3);
        granted("one clash", x.clashes() * 1000 + x.clash(0), 1001);
        stand(CLASHING);
        granted("below and above", x.relation(0, 0), 5);
        granted("one clash", x.clashes() * 1000 + x.clash(0), 1000);
        stand("desk mixed;rule e is - f + does same;rule f is * f - does same;"
                + "rule f is value does value");
        granted("like and above", x.relation(0, 1), 6);
        granted("one clash", x.clashes() * 1000 + x.clash(0), 1001);
        stand("desk mixed;rule e is ~ e ~ does same;rule e is value does value");
        granted("all three", x.relation(0, 0), 7);
        granted("one clash", x.clashes() * 1000 + x.clash(0), 1000);
        stand(SUMS);
        granted("one relation each", x.clashes(), 0);
    }

    // ---- functions

    /** G of the i-th sign is over F of the one ahead, F of it over G of it; value is over all. */
    private static final String FIVE_LADDERS =
            "desk mixed;rule a is a + b does add;rule a is b does same;rule b is b - c does less;"
            + "rule b is c does same;rule c is c * d does times;rule c is d does same;"
            + "rule d is d / e does over;rule d is e does same;rule e is e ^ f does add;"
            + "rule e is f does same;rule f is value does value";

    private static void numbers(String what, int[] f, int[] g) {
        int most = 0;
        for (int t = 0; t < f.length; t++) {
            granted(what + ": F of " + t, x.function(t, 0), f[t]);
            granted(what + ": G of " + t, x.function(t, 1), g[t]);
            most = Math.max(most, Math.max(f[t], g[t]));
        }
        granted(what + ": the greatest", x.highest(), most);
    }

    static void termII_numbersAreTheLongestWays() {
        stand(FIVE_LADDERS);
        numbers("five ladders", new int[] {2, 4, 6, 8, 10, 10, 0}, new int[] {1, 3, 5, 7, 9, 11, 0});
    }

    static void termII_numbersAreReckonedAnew() {
        stand(FIVE_LADDERS);
        x.aside(8, 1);
        numbers("without ^", new int[] {2, 4, 6, 8, 0, 8, 0}, new int[] {1, 3, 5, 7, 0, 9, 0});
        x.aside(0, 1);
        numbers("without + and ^", new int[] {0, 2, 4, 6, 0, 6, 0}, new int[] {0, 1, 3, 5, 0, 7, 0});
        x.aside(4, 1);
        numbers("- and / alone", new int[] {0, 2, 0, 4, 0, 4, 0}, new int[] {0, 1, 0, 3, 0, 5, 0});
        x.aside(10, 1);
        numbers("without value", new int[] {0, 2, 0, 4, 0, 0, 0}, new int[] {0, 1, 0, 3, 0, 0, 0});
        x.aside(1, 1);
        // Nothing leads from START: END is out of it, and - is over itself alone.
        numbers("without a is b", new int[] {0, 1, 0, 3, 0, 0, 0}, new int[] {0, 0, 0, 2, 0, 0, 0});
        granted("another grammar", grammar("desk mixed;rule a is value does value"), 1);
        numbers("value alone", new int[] {1, 0}, new int[] {1, 0});
    }

    static void termII_numbersHoldTheRelations() {
        for (String text : new String[] {SUMS, ALL_DEEDS, BEHIND, FIVE_LADDERS}) {
            stand(text);
            int end = x.about(3);
            int[] f = new int[end + 1];
            int[] g = new int[end + 1];
            for (int t = 0; t <= end; t++) {
                f[t] = x.function(t, 0);
                g[t] = x.function(t, 1);
            }
            for (int a = 0; a <= end; a++) {
                for (int b = 0; b <= end; b++) {
                    int by = f[a] < g[b] ? 1 : f[a] == g[b] ? 2 : 4;
                    int told = x.relation(a, b);
                    isTrue("numbers of " + a + " and " + b, told == 0 || told == by);
                }
            }
        }
    }

    static void termII_withoutArcsEachNumberIs0() {
        // Value alone in a name that isn't START: no relation, so no arc.
        stand("desk mixed;rule a is + a does same;rule b is value does value");
        x.aside(0, 1);
        for (int t = 0; t <= 2; t++) {
            granted("F", x.function(t, 0), 0);
            granted("G", x.function(t, 1), 0);
        }
        granted("the greatest", x.highest(), 0);
        granted("knots", x.knotted(), 6);
        ring();
    }

    static void termII_likeMakesOneKnot() {
        stand(SUMS);
        granted("F of ( is G of )", x.function(2, 0) - x.function(3, 1), 0);
        granted("one knot less than points", x.knotted(), 11);
        stand("desk mixed;rule e is ( e ) does same;rule e is [ e ) does same;"
                + "rule e is value does value");
        granted("F of (, F of [, G of ) are one: two knots less", x.knotted(), 8);
        granted("F of [ is G of )", x.function(2, 0) - x.function(1, 1), 0);
        ring();
    }

    static void termII_aKnotIsToldByItsLeastPoint() {
        // [ is below ), whose G is in one knot with F of [, and that is told by F of (.
        stand(KNOT_OF_FOUR);
        granted("three knots less than points", x.knotted(), 9);
        ring(0);
    }

    // ---- the ring

    static void termII_aRingOfOneKnot() {
        stand("desk mixed;rule e is ~ e ~ does same;rule e is value does value");
        ring(0);
        // & 0, ~ 1: the same, of the second sign.
        stand("desk mixed;rule e is & f does same;rule f is ~ f ~ does same;"
                + "rule f is value does value");
        ring(1);
    }

    static void termII_aRingOfTwoIsAClash() {
        stand(CLASHING);
        ring(0, 16);
        stand("desk mixed;rule e is f * f does add;rule f is f + f does add;"
                + "rule f is value does value");
        granted("* 0 doesn't clash, + 1 does", x.clashes() * 100 + x.clash(0), 117);
        ring(1, 17);
    }

    static void termII_aRingFromTheLeastKnotWithAWayBack() {
        stand(RINGED);
        granted("no clash", x.clashes(), 0);
        ring(1, 18, 3, 16);
        // From G of / an arc leads to F of - as well, which is less than all, and no further.
        stand(RINGED.replace("rule m is - q", "rule m is - k"));
        granted("- below /", x.relation(0, 2), 1);
        ring(1, 18, 3, 16);
    }

    static void termII_aRingByTheShortestWayBack() {
        // + 0, - 1, * 2, / 3, ^ 4. Ways back: F +, G ^; and F +, G -, F *, G /.
        stand("desk mixed;rule s is + p does same;rule s is n - does same;rule s is * q does same;"
                + "rule s is w / does same;rule s is n ^ does same;rule p is ^ v does same;"
                + "rule p is / v does same;rule n is v + does same;rule q is - v does same;"
                + "rule w is v * does same;rule v is value does value");
        ring(0, 20);
        granted("without n ^", x.aside(4, 1), 1);
        ring(0, 17, 2, 19);
    }

    static void termII_aRingByTheLeastNextKnots() {
        // + 0, * 1, - 2, / 3, ^ 4, ! 5: two ways out of F +, two out of G - and of G ^.
        stand("desk mixed;rule s is + y does same;rule s is * q does same;rule s is n - does same;"
                + "rule s is / q does same;rule s is n ^ does same;rule y is w ! does same;"
                + "rule n is v + does same;rule q is - v does same;rule q is ^ v does same;"
                + "rule w is v * does same;rule w is v / does same;rule v is value does value");
        ring(0, 18, 1, 21);
        // The least next knot comes first, though the one behind it is greater than the other's.
        stand("desk mixed;rule s is + y does same;rule s is * q does same;rule s is n - does same;"
                + "rule s is / r does same;rule s is n ^ does same;rule y is w ! does same;"
                + "rule n is n + does same;rule w is w * does same;rule w is w / does same;"
                + "rule q is ^ q does same;rule r is - r does same");
        ring(0, 18, 3, 17);
    }

    static void termII_numbersBehindARing() {
        stand(CLASHING);
        ring(0, 16);
        x.aside(0, 1);
        ring();
        granted("F of value over G of END", x.function(1, 0), 1);
        granted("G of value over F of END", x.function(1, 1), 1);
        granted("F of +", x.function(0, 0), 0);
        granted("G of +", x.function(0, 1), 0);
        x.aside(0, 0);
        ring(0, 16);
        refused("none again", x.function(1, 0), 5);
    }

    static void termII_withARingThereAreNoNumbers() {
        for (String text : new String[] {CLASHING, RINGED, KNOT_OF_FOUR}) {
            stand(text);
            refused("F", x.function(0, 0), 5);
            refused("G of END", x.function(x.about(3), 1), 5);
            refused("the greatest", x.highest(), 5);
            refused("hidden", x.hidden(2), 5);
        }
    }

    // ---- skeletons

    static void termII_doublesHaveTheSkeletonOfOneAhead() {
        stand("desk mixed;rule a is a + b does add;rule b is b + a does less;rule a is b does same;"
                + "rule b is a does minus;rule b is value does value;rule a is value does value;"
                + "rule a is + a does minus;rule b is a + does same;rule a is + b does same;"
                + "rule a is b + a does times;rule b is b - a does less;rule b is a + value does same");
        granted("1 and 9 of 0, 5 of 4, 8 of 6", x.doubles(), bits(1, 5, 8, 9));
        x.aside(0, 1);
        granted("9 of 1", x.doubles(), bits(5, 8, 9));
        x.aside(1, 1);
        granted("9 of none", x.doubles(), bits(5, 8));
        x.aside(8, 1);
        granted("one aside is none", x.doubles(), bits(5));
        x.aside(4, 1);
        granted("no double", x.doubles(), 0);
        x.aside(0, 0);
        granted("9 of 0 again", x.doubles(), bits(9));
    }

    static void termII_rulesOfOneNameAloneHaveNoSkeleton() {
        stand("desk mixed;rule a is b does same;rule a is b does minus;rule b is a does whole;"
                + "rule b is value does value");
        granted("no double", x.doubles(), 0);
        granted("none is reduced but value", say("5", 0), 2);
        granted("its rule", x.reduced(0), 3);
        granted("its value", x.value(1), 5);
    }
}
