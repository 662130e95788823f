/** What the tests of the project share: texts on the tape, and counting what is not as due. */
final class Checks {
    private static int made;
    private static int wrong;
    private static String test = "";

    private Checks() {
    }

    /** Names the test that what is not as due is told by. */
    static void begin(String name) {
        test = name.isEmpty() ? "" : name + ": ";
    }

    static void due(String what, long got, long want) {
        made++;
        if (got != want) {
            wrong++;
            System.out.println(test + what + " answered " + got + ", due is " + want);
        }
    }

    static void due(String what, boolean got, boolean want) {
        due(what, got ? 1 : 0, want ? 1 : 0);
    }

    /** Feeds a text, with blanks behind it up to the next twenty bytes: how long the text is. */
    static int feed(SignLadders desk, String text) {
        for (int from = 0; from < text.length(); from += 20) {
            int[] five = fives(text, from);
            desk.feed(five[0], five[1], five[2], five[3], five[4]);
        }
        return text.length();
    }

    static int[] fives(String text, int from) {
        int[] five = new int[5];
        for (int i = 0; i < 20; i++) {
            int b = from + i < text.length() ? text.charAt(from + i) & 255 : ' ';
            five[i / 4] = five[i / 4] << 8 | b;
        }
        return five;
    }

    /** Feeds the text and tells it as a grammar. */
    static int grammar(SignLadders desk, String text) {
        return desk.grammar(feed(desk, text));
    }

    static int formula(SignLadders desk, String text, int how) {
        return desk.formula(feed(desk, text), how);
    }

    static SignLadders deskOf(String text) {
        SignLadders desk = new SignLadders();
        int rules = grammar(desk, text);
        if (rules < 0) {
            due("grammar of a test: " + text, desk.fault() * 1000L + desk.where(), 0);
        }
        return desk;
    }

    static void end() {
        System.out.println(made + " answers, " + wrong + " of them not as due");
        if (wrong != 0) {
            System.exit(1);
        }
    }
}
