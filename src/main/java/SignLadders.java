import java.util.NoSuchElementException;

/** A desk for formulas by precedences; the document's promises 1 to 36. */
public final class SignLadders {
    public static final int NONE = -1;

    private static final int TAPE_BYTES = 900;
    private static final int FEED_BYTES = 20;

    private static final int NO_TROUBLE = 0;
    private static final int NO_SUCH = 1;
    private static final int BAD_NUMBER = 2;
    private static final int FAULTY = 4;
    private static final int NOT_SO = 5;
    private static final int FAILED = 6;

    private static final int BY_RELATIONS = 0;
    private static final int BY_FUNCTIONS = 1;

    private static final int BELOW = 1;
    private static final int LIKE = 2;
    private static final int ABOVE = 4;

    private static final int MOST_RULES = 12;
    private static final int MOST_ITEMS = 5;
    private static final int MOST_NAMES = 6;
    private static final int MOST_TERMINALS = 11;
    private static final int MOST_TOKENS = 60;
    private static final int MOST_STACKED = 15;
    private static final int MOST_ACTS = 10;

    private static final int VALUE_SIGN = 0;
    private static final int END_SIGN = -2;
    private static final int NAME_ITEM = 100;
    private static final int NO_NODE = -2;
    private static final String SIGNS = "+-*/^()[]!~=&|";

    private static final int WHOLE_DESK = 1;
    private static final int REAL_DESK = 2;

    private static final int DEED_ADD = 0;
    private static final int DEED_LESS = 1;
    private static final int DEED_TIMES = 2;
    private static final int DEED_OVER = 3;
    private static final int DEED_MINUS = 4;
    private static final int DEED_SAME = 5;
    private static final int DEED_WHOLE = 6;
    private static final int DEED_REAL = 7;
    private static final int DEED_VALUE = 8;

    private final byte[] tape = new byte[TAPE_BYTES];
    private int fed;
    private Grammar desk = new Grammar();
    private Grammar spare = new Grammar();
    private boolean standing;
    private final GrammarReader reader = new GrammarReader();
    private final Relations relations = new Relations();
    private final Ladders ladders = new Ladders();
    private final Acts acts = new Acts();
    private final Formula text = new Formula();
    private final Reading kept = new Reading();
    private final Reading other = new Reading();
    private boolean told;
    private int latestFault;
    private int latestTrouble;
    private int latestPlace;

    public SignLadders() {
    }

    // ---- the grammar

    public int feed(int a, int b, int c, int d, int e) {
        if (fed + FEED_BYTES > TAPE_BYTES) {
            return NONE;
        }
        putBytes(a);
        putBytes(b);
        putBytes(c);
        putBytes(d);
        putBytes(e);
        return fed;
    }

    public int grammar(int n) {
        if (n < 0 || n > fed) {
            return refuse(BAD_NUMBER);
        }
        reader.readAll(tape, n, spare);
        fed = 0;
        latestFault = reader.fault;
        if (latestFault != 0) {
            return refuseAt(FAULTY, reader.place);
        }
        Grammar old = desk;
        desk = spare;
        spare = old;
        standing = true;
        acts.clear();
        settle();
        return grant(desk.rules);
    }

    public int fault() {
        return latestFault;
    }

    public int where() {
        return latestTrouble == FAULTY || latestTrouble == FAILED ? latestPlace : NONE;
    }

    public int about(int what) {
        if (!standing) {
            return refuse(NO_SUCH);
        }
        switch (what) {
            case 0:
                return grant(desk.kind);
            case 1:
                return grant(desk.rules);
            case 2:
                return grant(desk.names);
            case 3:
                return grant(desk.terminals);
            default:
                return refuse(NO_SUCH);
        }
    }

    public int rule(int r, int what) {
        if (!hasRule(r)) {
            return refuse(NO_SUCH);
        }
        switch (what) {
            case 0:
                return grant(desk.heads[r]);
            case 1:
                return grant(desk.lengths[r]);
            case 2:
                return grant(desk.deeds[r]);
            case 3:
                return grant(desk.put[r] ? 1 : 0);
            default:
                return refuse(NO_SUCH);
        }
    }

    public int item(int r, int i) {
        if (!hasRule(r) || i < 0 || i >= desk.lengths[r]) {
            return refuse(NO_SUCH);
        }
        return grant(desk.itemAt(r, i));
    }

    public int sign(int t) {
        if (!hasTerminal(t)) {
            return refuse(NO_SUCH);
        }
        return grant(t == desk.terminals ? END_SIGN : desk.signs[t]);
    }

    // ---- relations

    public int edge(int name, int how) {
        if (!standing || name < 0 || name >= desk.names || how < 0 || how > 1) {
            return refuse(NO_SUCH);
        }
        return grant(how == 0 ? relations.lead[name] : relations.trail[name]);
    }

    public int relation(int x, int y) {
        if (!hasTerminal(x) || !hasTerminal(y)) {
            return refuse(NO_SUCH);
        }
        return grant(relations.between(x, y));
    }

    public int related(int relation) {
        if (!standing) {
            return refuse(NO_SUCH);
        }
        if (!isRelation(relation)) {
            return refuse(BAD_NUMBER);
        }
        return grant(relations.countOf(relation));
    }

    public int clashes() {
        return standing ? grant(relations.clashCount()) : refuse(NO_SUCH);
    }

    public int clash(int i) {
        if (!standing || i < 0 || i >= relations.clashCount()) {
            return refuse(NO_SUCH);
        }
        return grant(relations.clashAt(i));
    }

    public int doubles() {
        return standing ? grant(desk.doubleRules()) : refuse(NO_SUCH);
    }

    // ---- functions

    public int function(int t, int what) {
        if (!hasTerminal(t) || what < 0 || what > 1) {
            return refuse(NO_SUCH);
        }
        if (!ladders.stand()) {
            return refuse(NOT_SO);
        }
        return grant(what == 0 ? ladders.valueF(t) : ladders.valueG(t));
    }

    public int highest() {
        if (!standing) {
            return refuse(NO_SUCH);
        }
        return ladders.stand() ? grant(ladders.greatest()) : refuse(NOT_SO);
    }

    public int hidden(int relation) {
        if (!standing) {
            return refuse(NO_SUCH);
        }
        if (!isRelation(relation)) {
            return refuse(BAD_NUMBER);
        }
        if (!ladders.stand()) {
            return refuse(NOT_SO);
        }
        return grant(hiddenCount(relation));
    }

    public int knotted() {
        return standing ? grant(ladders.knotCount()) : refuse(NO_SUCH);
    }

    public int ring() {
        return standing ? grant(ladders.ringLength) : refuse(NO_SUCH);
    }

    public int ringAt(int i) {
        if (!standing || i < 0 || i >= ladders.ringLength) {
            return refuse(NO_SUCH);
        }
        return grant(ladders.ringKnots[i]);
    }

    // ---- formulas

    public int formula(int n, int how) {
        if (!standing || how != BY_RELATIONS && how != BY_FUNCTIONS) {
            return refuse(NO_SUCH);
        }
        if (n < 0 || n > fed) {
            return refuse(BAD_NUMBER);
        }
        if (!canReadBy(how)) {
            return refuse(NOT_SO);
        }
        text.scan(tape, n);
        fed = 0;
        told = true;
        kept.readThrough(desk, relations, ladders, text, how);
        return stepsOf(kept);
    }

    public int read(int what) {
        if (!told) {
            return refuse(NO_SUCH);
        }
        switch (what) {
            case 0:
                return grant(kept.fails);
            case 1:
                return grant(text.tokenCount());
            case 2:
                return grant(kept.steps);
            case 3:
                return grant(kept.nodes.count);
            case 4:
                return grant(kept.most);
            default:
                return refuse(NO_SUCH);
        }
    }

    public int reduced(int i) {
        return hasNode(i) ? grant(kept.nodes.rules[i]) : refuse(NO_SUCH);
    }

    public int node(int i, int what) {
        if (!hasNode(i) || what < 0 || what > 4) {
            refuse(NO_SUCH);
            return Integer.MIN_VALUE;
        }
        Nodes nodes = kept.nodes;
        switch (what) {
            case 0:
                return grant(nodes.firsts[i]);
            case 1:
                return grant(nodes.seconds[i]);
            case 2:
                return grant(nodes.depths[i]);
            case 3:
                return grant(nodes.reals[i] ? 1 : 0);
            default:
                return grant(nodes.bits[i]);
        }
    }

    public int under(int node, int i) {
        if (!hasNode(node) || i < 0 || i >= kept.nodes.sizes[node]) {
            return refuse(NO_SUCH);
        }
        return grant(kept.nodes.below(node, i));
    }

    public int value(int what) {
        if (!hasValue() || what < 0 || what > 2) {
            refuse(NO_SUCH);
            return Integer.MIN_VALUE;
        }
        boolean isReal = kept.nodes.reals[kept.root()];
        int bits = kept.nodes.bits[kept.root()];
        switch (what) {
            case 0:
                return grant(isReal ? 1 : 0);
            case 1:
                return grant(bits);
            default:
                return grant(isReal ? Reals.toWhole(bits) : bits);
        }
    }

    public long third() {
        if (!hasValue()) {
            refuse(NO_SUCH);
            return Long.MIN_VALUE;
        }
        grant(0);
        int bits = kept.nodes.bits[kept.root()];
        return kept.nodes.reals[kept.root()] ? Reals.thirdOfReal(bits) : Reals.thirdOfWhole(bits);
    }

    public int otherwise() {
        if (!told) {
            return refuse(NO_SUCH);
        }
        int how = BY_FUNCTIONS - kept.how;
        if (!canReadBy(how)) {
            return refuse(NOT_SO);
        }
        other.readThrough(desk, relations, ladders, text, how);
        return stepsOf(other);
    }

    public int later() {
        if (!told) {
            return refuse(NO_SUCH);
        }
        if (!canReadBy(BY_RELATIONS) || !canReadBy(BY_FUNCTIONS)) {
            return refuse(NOT_SO);
        }
        other.readThrough(desk, relations, ladders, text, BY_FUNCTIONS - kept.how);
        int more = other.steps - kept.steps;
        return grant(kept.how == BY_RELATIONS ? more : -more);
    }

    // ---- acts

    public int aside(int r, int is) {
        if (!hasRule(r)) {
            return refuse(NO_SUCH);
        }
        if (is < 0 || is > 1) {
            return refuse(BAD_NUMBER);
        }
        if (desk.put[r] == (is == 1)) {
            return refuse(NOT_SO);
        }
        acts.keep(r, 1 - is);
        desk.put[r] = is == 1;
        settle();
        return grant(desk.putCount());
    }

    public int kind(int k) {
        if (!standing) {
            return refuse(NO_SUCH);
        }
        if (k < 0 || k > REAL_DESK) {
            return refuse(BAD_NUMBER);
        }
        int was = desk.kind;
        acts.keep(Acts.OF_KIND, was);
        desk.kind = k;
        told = false;
        return grant(was);
    }

    public boolean undo() {
        if (acts.count == 0) {
            refuse(NO_SUCH);
            return false;
        }
        acts.takeBack(desk);
        settle();
        grant(0);
        return true;
    }

    // ---- what is told

    public int barren(int i) throws NoSuchElementException {
        int name = standing && i >= 0 ? desk.barrenName(i) : NONE;
        if (name == NONE) {
            throw new NoSuchElementException("no such barren name");
        }
        return name;
    }

    public int size(int what) {
        switch (what) {
            case 0:
                return fed;
            case 1:
                return acts.count;
            case 2:
                return standing ? desk.putCount() : 0;
            default:
                return NONE;
        }
    }

    public int trouble() {
        return latestTrouble;
    }

    // ---- inside

    private int grant(int answer) {
        latestTrouble = NO_TROUBLE;
        return answer;
    }

    private int refuse(int number) {
        latestTrouble = number;
        return NONE;
    }

    private int refuseAt(int number, int place) {
        latestPlace = place;
        return refuse(number);
    }

    private void putBytes(int four) {
        for (int shift = 24; shift >= 0 && fed < TAPE_BYTES; shift -= 8) {
            tape[fed] = (byte) (four >> shift);
            fed++;
        }
    }

    // Relations, functions and the formula all hang on which rules are aside.
    private void settle() {
        relations.reckon(desk);
        ladders.reckon(relations);
        told = false;
    }

    private boolean hasRule(int r) {
        return standing && r >= 0 && r < desk.rules;
    }

    private boolean hasTerminal(int t) {
        return standing && t >= 0 && t <= desk.terminals;
    }

    private boolean hasNode(int i) {
        return told && i >= 0 && i < kept.nodes.count;
    }

    private boolean hasValue() {
        return told && kept.fails == 0 && hasNode(kept.root());
    }

    private static boolean isRelation(int relation) {
        return relation == BELOW || relation == LIKE || relation == ABOVE;
    }

    private boolean canReadBy(int how) {
        return how == BY_RELATIONS ? relations.clashCount() == 0 : ladders.stand();
    }

    private int stepsOf(Reading reading) {
        return reading.fails == 0 ? grant(reading.steps) : refuseAt(FAILED, reading.place);
    }

    private int hiddenCount(int relation) {
        int count = 0;
        for (int x = 0; x <= desk.terminals; x++) {
            for (int y = 0; y <= desk.terminals; y++) {
                if (relations.between(x, y) == 0 && ladders.compared(x, y) == relation) {
                    count++;
                }
            }
        }
        return count;
    }

    /** The rules as told, and which of them are aside. */
    private static final class Grammar {
        int kind;
        int rules;
        int names;
        int terminals;
        final int[] words = new int[MOST_NAMES];
        final int[] signs = new int[MOST_TERMINALS];
        final int[] heads = new int[MOST_RULES];
        final int[] deeds = new int[MOST_RULES];
        final int[] lengths = new int[MOST_RULES];
        final int[] items = new int[MOST_RULES * MOST_ITEMS];
        final boolean[] put = new boolean[MOST_RULES];

        void clear() {
            kind = 0;
            rules = 0;
            names = 0;
            terminals = 0;
            for (int r = 0; r < MOST_RULES; r++) {
                lengths[r] = 0;
                put[r] = false;
            }
        }

        int itemAt(int r, int i) {
            return items[r * MOST_ITEMS + i];
        }

        static boolean isName(int item) {
            return item >= NAME_ITEM;
        }

        int nameNumber(int word) {
            for (int i = 0; i < names; i++) {
                if (words[i] == word) {
                    return i;
                }
            }
            return NONE;
        }

        int terminalNumber(int sign) {
            for (int t = 0; t < terminals; t++) {
                if (signs[t] == sign) {
                    return t;
                }
            }
            return NONE;
        }

        int namesAmong(int r) {
            int count = 0;
            for (int i = 0; i < lengths[r]; i++) {
                if (isName(itemAt(r, i))) {
                    count++;
                }
            }
            return count;
        }

        boolean isHead(int name) {
            for (int r = 0; r < rules; r++) {
                if (heads[r] == name) {
                    return true;
                }
            }
            return false;
        }

        boolean hasSkeleton(int r) {
            return lengths[r] != 1 || !isName(itemAt(r, 0));
        }

        private boolean sameSkeleton(int r, int s) {
            if (lengths[r] != lengths[s]) {
                return false;
            }
            for (int i = 0; i < lengths[r]; i++) {
                int a = itemAt(r, i);
                int b = itemAt(s, i);
                if (a != b && !(isName(a) && isName(b))) {
                    return false;
                }
            }
            return true;
        }

        private boolean isDouble(int r) {
            if (put[r] || !hasSkeleton(r)) {
                return false;
            }
            for (int s = 0; s < r; s++) {
                if (!put[s] && sameSkeleton(r, s)) {
                    return true;
                }
            }
            return false;
        }

        int doubleRules() {
            int bits = 0;
            for (int r = 0; r < rules; r++) {
                if (isDouble(r)) {
                    bits |= 1 << r;
                }
            }
            return bits;
        }

        int putCount() {
            int count = 0;
            for (int r = 0; r < rules; r++) {
                if (put[r]) {
                    count++;
                }
            }
            return count;
        }

        private boolean isBarren(int name) {
            for (int r = 0; r < rules; r++) {
                if (heads[r] == name && !put[r]) {
                    return false;
                }
            }
            return true;
        }

        int barrenName(int i) {
            int behind = i;
            for (int name = 0; name < names; name++) {
                if (isBarren(name)) {
                    if (behind == 0) {
                        return name;
                    }
                    behind--;
                }
            }
            return NONE;
        }
    }

    /** Reads a grammar's text token by token and stops at the first fault. */
    private static final class GrammarReader {
        private static final int TEXT_END = 0;
        private static final int WORD = 1;
        private static final int SIGN = 2;
        private static final int PARTING = 3;
        private static final int NO_TOKEN = 4;

        private static final int WANTS_LINE = 0;
        private static final int WANTS_KIND = 1;
        private static final int WANTS_HEAD = 2;
        private static final int WANTS_IS = 3;
        private static final int WANTS_ITEM = 4;
        private static final int WANTS_ITEM_OR_DOES = 5;
        private static final int WANTS_DEED = 6;
        private static final int WANTS_PARTING = 7;

        private static final int FORM = 1;
        private static final int DEED = 2;
        private static final int SIDE_BY_SIDE = 3;
        private static final int MANY = 4;
        private static final int LACKS = 5;
        private static final int AGAIN = 6;

        private static final int LONGEST_WORD = 6;

        int fault;
        int place;
        private byte[] bytes;
        private int length;
        private int at;
        private Grammar made;
        private int state;
        private boolean hasDesk;
        private boolean ended;
        private int token;
        private int tokenPlace;
        private int word;
        private int sign;

        void readAll(byte[] tape, int n, Grammar into) {
            bytes = tape;
            length = n;
            at = 0;
            made = into;
            made.clear();
            state = WANTS_LINE;
            hasDesk = false;
            ended = false;
            fault = 0;
            place = 0;
            for (int round = 0; round <= n && !ended; round++) {
                nextToken();
                takeToken();
            }
        }

        private int byteAt(int i) {
            return bytes[i] & 255;
        }

        private void nextToken() {
            for (; at < length && byteAt(at) == ' '; at++) {
                // blanks part tokens and mean nothing else
            }
            tokenPlace = at;
            if (at >= length) {
                token = TEXT_END;
                return;
            }
            int first = byteAt(at);
            if (isLetter(first)) {
                nextWord();
                return;
            }
            at++;
            if (first == ';') {
                token = PARTING;
            } else if (SIGNS.indexOf((char) first) >= 0) {
                token = SIGN;
                sign = first;
            } else {
                token = NO_TOKEN;
            }
        }

        // Five bits a letter: a word of six fits one int, so words compare as numbers.
        private void nextWord() {
            int packed = 0;
            for (; at < length && isLetter(byteAt(at)); at++) {
                packed = packed * 32 + byteAt(at) - 'a' + 1;
            }
            word = packed;
            token = at - tokenPlace <= LONGEST_WORD ? WORD : NO_TOKEN;
        }

        private static boolean isLetter(int b) {
            return b >= 'a' && b <= 'z';
        }

        private boolean isWord(String text) {
            if (token != WORD) {
                return false;
            }
            int packed = 0;
            for (int i = 0; i < text.length(); i++) {
                packed = packed * 32 + text.charAt(i) - 'a' + 1;
            }
            return packed == word;
        }

        private void failWith(int number) {
            fault = number;
            place = tokenPlace;
            ended = true;
        }

        private void takeToken() {
            if (token == NO_TOKEN) {
                failWith(FORM);
                return;
            }
            switch (state) {
                case WANTS_LINE:
                    takeLine();
                    break;
                case WANTS_KIND:
                    takeKind();
                    break;
                case WANTS_HEAD:
                    takeHead();
                    break;
                case WANTS_IS:
                    takeIs();
                    break;
                case WANTS_ITEM:
                case WANTS_ITEM_OR_DOES:
                    takeItem();
                    break;
                case WANTS_DEED:
                    takeDeed();
                    break;
                default:
                    takeParting();
                    break;
            }
        }

        private void takeLine() {
            if (isWord("desk")) {
                if (hasDesk) {
                    failWith(AGAIN);
                    return;
                }
                hasDesk = true;
                state = WANTS_KIND;
            } else if (isWord("rule")) {
                if (made.rules >= MOST_RULES) {
                    failWith(MANY);
                } else if (!hasDesk) {
                    failWith(LACKS);
                } else {
                    state = WANTS_HEAD;
                }
            } else {
                failWith(FORM);
            }
        }

        private void takeKind() {
            if (isWord("mixed")) {
                made.kind = 0;
            } else if (isWord("whole")) {
                made.kind = WHOLE_DESK;
            } else if (isWord("real")) {
                made.kind = REAL_DESK;
            } else {
                failWith(FORM);
                return;
            }
            state = WANTS_PARTING;
        }

        private boolean isNameWord() {
            return token == WORD && !isWord("desk") && !isWord("rule") && !isWord("is")
                    && !isWord("does") && !isWord("value");
        }

        // The number of the name that was met, or NONE behind a fault.
        private int meetName() {
            int name = made.nameNumber(word);
            if (name != NONE) {
                return name;
            }
            if (made.names >= MOST_NAMES) {
                failWith(MANY);
                return NONE;
            }
            made.words[made.names] = word;
            made.names++;
            return made.names - 1;
        }

        private int meetTerminal(int terminalSign) {
            int terminal = made.terminalNumber(terminalSign);
            if (terminal != NONE) {
                return terminal;
            }
            if (made.terminals >= MOST_TERMINALS) {
                failWith(MANY);
                return NONE;
            }
            made.signs[made.terminals] = terminalSign;
            made.terminals++;
            return made.terminals - 1;
        }

        private void takeHead() {
            if (!isNameWord()) {
                failWith(FORM);
                return;
            }
            int name = meetName();
            if (name != NONE) {
                made.heads[made.rules] = name;
                made.lengths[made.rules] = 0;
                state = WANTS_IS;
            }
        }

        private void takeIs() {
            if (isWord("is")) {
                state = WANTS_ITEM;
            } else {
                failWith(FORM);
            }
        }

        private void takeItem() {
            if (state == WANTS_ITEM_OR_DOES && isWord("does")) {
                state = WANTS_DEED;
            } else if (isNameWord()) {
                takeNameItem();
            } else if (token == SIGN) {
                takeTerminalItem(sign);
            } else if (isWord("value")) {
                takeTerminalItem(VALUE_SIGN);
            } else {
                failWith(FORM);
            }
        }

        private void takeNameItem() {
            int before = made.lengths[made.rules];
            if (before > 0 && Grammar.isName(made.itemAt(made.rules, before - 1))) {
                failWith(SIDE_BY_SIDE);
            } else if (before >= MOST_ITEMS) {
                failWith(MANY);
            } else {
                int name = meetName();
                if (name != NONE) {
                    addItem(NAME_ITEM + name);
                }
            }
        }

        private void takeTerminalItem(int terminalSign) {
            if (made.lengths[made.rules] >= MOST_ITEMS) {
                failWith(MANY);
                return;
            }
            int terminal = meetTerminal(terminalSign);
            if (terminal != NONE) {
                addItem(terminal);
            }
        }

        private void addItem(int item) {
            int r = made.rules;
            made.items[r * MOST_ITEMS + made.lengths[r]] = item;
            made.lengths[r]++;
            state = WANTS_ITEM_OR_DOES;
        }

        private void takeDeed() {
            int deed = deedOfWord();
            if (deed == NONE) {
                failWith(FORM);
            } else if (!goesWithRule(deed)) {
                failWith(DEED);
            } else {
                made.deeds[made.rules] = deed;
                made.rules++;
                state = WANTS_PARTING;
            }
        }

        private int deedOfWord() {
            for (int deed = DEED_ADD; deed <= DEED_VALUE; deed++) {
                if (isWord(deedText(deed))) {
                    return deed;
                }
            }
            return NONE;
        }

        private static String deedText(int deed) {
            switch (deed) {
                case DEED_ADD:
                    return "add";
                case DEED_LESS:
                    return "less";
                case DEED_TIMES:
                    return "times";
                case DEED_OVER:
                    return "over";
                case DEED_MINUS:
                    return "minus";
                case DEED_SAME:
                    return "same";
                case DEED_WHOLE:
                    return "whole";
                case DEED_REAL:
                    return "real";
                default:
                    return "value";
            }
        }

        private boolean goesWithRule(int deed) {
            int r = made.rules;
            if (deed == DEED_VALUE) {
                return made.lengths[r] == 1
                        && made.itemAt(r, 0) == made.terminalNumber(VALUE_SIGN);
            }
            return made.namesAmong(r) == (deed <= DEED_OVER ? 2 : 1);
        }

        private void takeParting() {
            if (token == PARTING) {
                state = WANTS_LINE;
            } else if (token != TEXT_END) {
                failWith(FORM);
            } else if (lacksSomething()) {
                failWith(LACKS);
            } else {
                ended = true;
            }
        }

        private boolean lacksSomething() {
            if (!hasDesk || made.rules == 0) {
                return true;
            }
            for (int name = 0; name < made.names; name++) {
                if (!made.isHead(name)) {
                    return true;
                }
            }
            return false;
        }
    }

    /** Lead and trail of each name, and the three relations, of the rules not aside. */
    private static final class Relations {
        private static final int SIDE = MOST_TERMINALS + 1;

        final int[] lead = new int[MOST_NAMES];
        final int[] trail = new int[MOST_NAMES];
        int end;
        private final int[] sums = new int[SIDE * SIDE];

        void reckon(Grammar grammar) {
            end = grammar.terminals;
            for (int i = 0; i < MOST_NAMES; i++) {
                lead[i] = 0;
                trail[i] = 0;
            }
            for (int i = 0; i < SIDE * SIDE; i++) {
                sums[i] = 0;
            }
            // One round carries each edge a name further, so as many rounds as names settle all.
            for (int round = 0; round <= grammar.names; round++) {
                growEdges(grammar);
            }
            for (int r = 0; r < grammar.rules; r++) {
                if (!grammar.put[r]) {
                    relateRule(grammar, r);
                }
            }
            addBelow(end, lead[0]);
            addAbove(trail[0], end);
        }

        private void growEdges(Grammar grammar) {
            for (int r = 0; r < grammar.rules; r++) {
                if (!grammar.put[r] && grammar.lengths[r] > 0) {
                    int last = grammar.lengths[r] - 1;
                    int head = grammar.heads[r];
                    lead[head] |= edgeOf(grammar, r, 0, Math.min(1, last), lead);
                    trail[head] |= edgeOf(grammar, r, last, Math.max(last - 1, 0), trail);
                }
            }
        }

        private static int edgeOf(Grammar grammar, int r, int outer, int inner, int[] edges) {
            int item = grammar.itemAt(r, outer);
            if (!Grammar.isName(item)) {
                return 1 << item;
            }
            int next = grammar.itemAt(r, inner);
            int bits = edges[item - NAME_ITEM];
            return Grammar.isName(next) ? bits : bits | 1 << next;
        }

        private void relateRule(Grammar grammar, int r) {
            int last = grammar.lengths[r] - 1;
            for (int i = 0; i < last; i++) {
                int a = grammar.itemAt(r, i);
                int b = grammar.itemAt(r, i + 1);
                if (Grammar.isName(a)) {
                    addAbove(trail[a - NAME_ITEM], b);
                } else if (Grammar.isName(b)) {
                    addBelow(a, lead[b - NAME_ITEM]);
                    if (i + 1 < last) {
                        addRelation(a, grammar.itemAt(r, i + 2), LIKE);
                    }
                } else {
                    addRelation(a, b, LIKE);
                }
            }
        }

        private void addBelow(int x, int leads) {
            for (int y = 0; y < end; y++) {
                if ((leads >> y & 1) != 0) {
                    addRelation(x, y, BELOW);
                }
            }
        }

        private void addAbove(int trails, int y) {
            for (int x = 0; x < end; x++) {
                if ((trails >> x & 1) != 0) {
                    addRelation(x, y, ABOVE);
                }
            }
        }

        private void addRelation(int x, int y, int relation) {
            if (x <= end && y <= end) {
                sums[x * SIDE + y] |= relation;
            }
        }

        int between(int x, int y) {
            return sums[x * SIDE + y];
        }

        int countOf(int relation) {
            int count = 0;
            for (int i = 0; i < SIDE * SIDE; i++) {
                if ((sums[i] & relation) != 0) {
                    count++;
                }
            }
            return count;
        }

        private boolean isClash(int i) {
            return Integer.bitCount(sums[i]) > 1;
        }

        int clashCount() {
            int count = 0;
            for (int i = 0; i < SIDE * SIDE; i++) {
                if (isClash(i)) {
                    count++;
                }
            }
            return count;
        }

        int clashAt(int wanted) {
            int behind = wanted;
            for (int i = 0; i < SIDE * SIDE; i++) {
                if (isClash(i)) {
                    if (behind == 0) {
                        return i / SIDE * 16 + i % SIDE;
                    }
                    behind--;
                }
            }
            return NONE;
        }
    }

    /** The functions F and G by longest ways, or the ring by which there are none. */
    private static final class Ladders {
        private static final int G_FROM = 16;
        private static final int POINTS = G_FROM + MOST_TERMINALS + 1;

        int ringLength;
        final int[] ringKnots = new int[POINTS];
        private int end;
        private final int[] knots = new int[POINTS];
        private final int[] arcs = new int[POINTS];
        private final int[] reaches = new int[POINTS];
        private final int[] numbers = new int[POINTS];
        private final int[] back = new int[POINTS];

        void reckon(Relations relations) {
            end = relations.end;
            for (int p = 0; p < POINTS; p++) {
                knots[p] = p;
                arcs[p] = 0;
                numbers[p] = 0;
            }
            tieKnots(relations);
            drawArcs(relations);
            reachOut();
            findRing();
            if (ringLength == 0) {
                measureWays();
            }
        }

        private void tieKnots(Relations relations) {
            for (int x = 0; x <= end; x++) {
                for (int y = 0; y <= end; y++) {
                    if ((relations.between(x, y) & LIKE) != 0) {
                        tie(knots[x], knots[G_FROM + y]);
                    }
                }
            }
        }

        private void tie(int a, int b) {
            int least = Math.min(a, b);
            int most = Math.max(a, b);
            for (int p = 0; p < POINTS; p++) {
                if (knots[p] == most) {
                    knots[p] = least;
                }
            }
        }

        private void drawArcs(Relations relations) {
            for (int x = 0; x <= end; x++) {
                for (int y = 0; y <= end; y++) {
                    int f = knots[x];
                    int g = knots[G_FROM + y];
                    int sum = relations.between(x, y);
                    if ((sum & BELOW) != 0) {
                        arcs[g] |= 1 << f;
                    }
                    if ((sum & ABOVE) != 0) {
                        arcs[f] |= 1 << g;
                    }
                }
            }
        }

        private static boolean has(int bits, int p) {
            return (bits >> p & 1) != 0;
        }

        private void reachOut() {
            for (int p = 0; p < POINTS; p++) {
                reaches[p] = arcs[p];
            }
            for (int by = 0; by < POINTS; by++) {
                for (int p = 0; p < POINTS; p++) {
                    if (has(reaches[p], by)) {
                        reaches[p] |= reaches[by];
                    }
                }
            }
        }

        private void findRing() {
            ringLength = 0;
            for (int p = 0; p < POINTS && ringLength == 0; p++) {
                if (has(reaches[p], p)) {
                    walkRing(p);
                }
            }
        }

        // Ways back are measured first, so that each next knot is the least on a shortest way.
        private void walkRing(int start) {
            measureBack(start);
            int length = wayRound(start);
            int knot = start;
            for (int i = 0; i < length && knot != NONE; i++) {
                ringKnots[i] = knot;
                knot = leastNext(knot, length - 1 - i);
            }
            ringLength = length;
        }

        // How many arcs lead from each knot to start; POINTS where no way does.
        private void measureBack(int start) {
            for (int p = 0; p < POINTS; p++) {
                back[p] = POINTS;
            }
            back[start] = 0;
            boolean grown = true;
            for (int far = 1; far < POINTS && grown; far++) {
                grown = false;
                for (int p = 0; p < POINTS; p++) {
                    if (back[p] == POINTS && leastNext(p, far - 1) != NONE) {
                        back[p] = far;
                        grown = true;
                    }
                }
            }
        }

        private int wayRound(int start) {
            for (int far = 0; far < POINTS; far++) {
                if (leastNext(start, far) != NONE) {
                    return far + 1;
                }
            }
            return 0;
        }

        private int leastNext(int knot, int far) {
            for (int p = 0; p < POINTS && arcs[knot] != 0; p++) {
                if (has(arcs[knot], p) && back[p] == far) {
                    return p;
                }
            }
            return NONE;
        }

        private void measureWays() {
            boolean grown = true;
            for (int round = 0; round < POINTS && grown; round++) {
                grown = false;
                for (int p = 0; p < POINTS; p++) {
                    int longest = longestFrom(p);
                    grown = grown || longest > numbers[p];
                    numbers[p] = longest;
                }
            }
        }

        private int longestFrom(int knot) {
            int longest = 0;
            for (int p = 0; p < POINTS && arcs[knot] != 0; p++) {
                if (has(arcs[knot], p)) {
                    longest = Math.max(longest, numbers[p] + 1);
                }
            }
            return longest;
        }

        boolean stand() {
            return ringLength == 0;
        }

        int valueF(int t) {
            return numbers[knots[t]];
        }

        int valueG(int t) {
            return numbers[knots[G_FROM + t]];
        }

        int compared(int x, int y) {
            int f = valueF(x);
            int g = valueG(y);
            return f < g ? BELOW : f == g ? LIKE : ABOVE;
        }

        int greatest() {
            int most = 0;
            for (int t = 0; t <= end; t++) {
                most = Math.max(most, Math.max(valueF(t), valueG(t)));
            }
            return most;
        }

        int knotCount() {
            int count = 0;
            for (int t = 0; t <= end; t++) {
                if (knots[t] == t) {
                    count++;
                }
                if (knots[G_FROM + t] == G_FROM + t) {
                    count++;
                }
            }
            return count;
        }
    }

    /** What can be undone: the latest acts, each with what was before it. */
    private static final class Acts {
        static final int OF_KIND = -1;

        int count;
        private final int[] of = new int[MOST_ACTS];
        private final int[] was = new int[MOST_ACTS];

        void clear() {
            count = 0;
        }

        void keep(int what, int before) {
            if (count >= MOST_ACTS) {
                System.arraycopy(of, 1, of, 0, MOST_ACTS - 1);
                System.arraycopy(was, 1, was, 0, MOST_ACTS - 1);
                count = MOST_ACTS - 1;
            }
            of[count] = what;
            was[count] = before;
            count++;
        }

        void takeBack(Grammar grammar) {
            if (count == 0) {
                return;
            }
            count--;
            int r = of[count];
            if (r == OF_KIND) {
                grammar.kind = was[count];
            } else if (r >= 0 && r < MOST_RULES) {
                grammar.put[r] = was[count] == 1;
            }
        }
    }

    /** A formula's tokens, with their places and operands. */
    private static final class Formula {
        private static final int MOST_DIGITS = 4;
        private static final int MOST_PARTS = 3;

        int length;
        int bad;
        final int[] signs = new int[MOST_TOKENS];
        final int[] places = new int[MOST_TOKENS];
        final boolean[] reals = new boolean[MOST_TOKENS];
        final int[] bits = new int[MOST_TOKENS];
        private byte[] bytes;
        private int count;
        private int at;

        void scan(byte[] tape, int n) {
            bytes = tape;
            length = n;
            bad = NONE;
            count = 0;
            at = 0;
            for (int round = 0; round < n && at < n && bad == NONE; round++) {
                scanNext();
            }
        }

        int tokenCount() {
            return bad == NONE ? count : 0;
        }

        private int byteAt(int i) {
            return bytes[i] & 255;
        }

        private boolean isDigit(int i) {
            return i < length && byteAt(i) >= '0' && byteAt(i) <= '9';
        }

        private void scanNext() {
            int first = byteAt(at);
            if (first == ' ') {
                at++;
            } else if (isDigit(at)) {
                scanOperand();
            } else if (SIGNS.indexOf((char) first) >= 0) {
                addToken(first, false, 0, at + 1);
            } else {
                bad = at;
            }
        }

        private int digitsEnd(int from) {
            for (int i = from; i < length; i++) {
                if (!isDigit(i)) {
                    return i;
                }
            }
            return length;
        }

        private void scanOperand() {
            int point = digitsEnd(at);
            boolean isReal = point < length && byteAt(point) == '.';
            int behind = isReal ? digitsEnd(point + 1) : point;
            int parts = isReal ? behind - point - 1 : 0;
            if (point - at > MOST_DIGITS || parts > MOST_PARTS || isReal && parts == 0) {
                bad = at;
                return;
            }
            int digits = digitsBetween(at, behind);
            addToken(VALUE_SIGN, isReal, isReal ? Reals.ofDigits(digits, parts) : digits, behind);
        }

        private int digitsBetween(int from, int to) {
            int digits = 0;
            for (int i = from; i < to; i++) {
                if (isDigit(i)) {
                    digits = digits * 10 + byteAt(i) - '0';
                }
            }
            return digits;
        }

        private void addToken(int sign, boolean isReal, int operand, int behind) {
            if (count >= MOST_TOKENS) {
                bad = at;
                return;
            }
            signs[count] = sign;
            places[count] = at;
            reals[count] = isReal;
            bits[count] = operand;
            count++;
            at = behind;
        }
    }

    /** What was reduced, in order: each with its rule, what is under it, and its value. */
    private static final class Nodes {
        int count;
        final int[] rules = new int[MOST_TOKENS];
        final int[] firsts = new int[MOST_TOKENS];
        final int[] seconds = new int[MOST_TOKENS];
        final int[] depths = new int[MOST_TOKENS];
        final int[] sizes = new int[MOST_TOKENS];
        final boolean[] reals = new boolean[MOST_TOKENS];
        final int[] bits = new int[MOST_TOKENS];

        boolean isFull() {
            return count >= MOST_TOKENS;
        }

        void add(int rule, int first, int second, boolean isReal, int valueBits) {
            rules[count] = rule;
            firsts[count] = first;
            seconds[count] = second;
            depths[count] = 1 + Math.max(depthOf(first), depthOf(second));
            sizes[count] = 1 + sizeOf(first) + sizeOf(second);
            reals[count] = isReal;
            bits[count] = valueBits;
            count++;
        }

        private int depthOf(int node) {
            return node >= 0 ? depths[node] : 0;
        }

        private int sizeOf(int node) {
            return node >= 0 ? sizes[node] : 0;
        }

        // A node is always under one that came later, so the way down is at most as long as all.
        int below(int node, int i) {
            int here = node;
            int left = i;
            for (int round = 0; round < MOST_TOKENS && left > 0 && here >= 0; round++) {
                int inFirst = sizeOf(firsts[here]);
                if (left <= inFirst) {
                    here = firsts[here];
                    left -= 1;
                } else {
                    here = seconds[here];
                    left -= 1 + inFirst;
                }
            }
            return here;
        }
    }

    /** One reading of a formula, by relations or by functions. */
    private static final class Reading {
        private static final int NO_TOKEN = 1;
        private static final int STRANGE = 2;
        private static final int NO_RELATION = 3;
        private static final int NO_RULE = 4;
        private static final int WRONG_KIND = 5;
        private static final int ZERO = 6;
        private static final int DEEP = 7;

        private static final int MOST_ROUNDS = 2 * MOST_TOKENS + 1;

        int how;
        int fails;
        int place;
        int steps;
        int most;
        final Nodes nodes = new Nodes();
        private Grammar grammar;
        private Relations relations;
        private Ladders ladders;
        private Formula formula;
        private int next;
        private boolean ended;
        private int top;
        private final int[] stack = new int[MOST_STACKED + 1];
        private final int[] tokens = new int[MOST_STACKED + 1];
        private final int[] behind = new int[MOST_STACKED + 1];
        private final Handle handle = new Handle();
        private final Reckoner reckoner = new Reckoner();

        void readThrough(Grammar by, Relations all, Ladders both, Formula text, int way) {
            grammar = by;
            relations = all;
            ladders = both;
            formula = text;
            how = way;
            fails = 0;
            place = NONE;
            steps = 0;
            most = 0;
            nodes.count = 0;
            next = 0;
            ended = false;
            top = 0;
            stack[0] = by.terminals;
            behind[0] = NO_NODE;
            if (text.bad != NONE) {
                failAt(NO_TOKEN, text.bad);
            }
            for (int round = 0; round < MOST_ROUNDS && !ended; round++) {
                goOn();
            }
        }

        int root() {
            return behind[0];
        }

        private void failAt(int number, int where) {
            fails = number;
            place = where;
            ended = true;
        }

        private void failHere(int number) {
            boolean inside = next < formula.tokenCount();
            failAt(number, inside ? formula.places[next] : formula.length);
        }

        private int nextTerminal() {
            boolean inside = next < formula.tokenCount();
            return inside ? grammar.terminalNumber(formula.signs[next]) : grammar.terminals;
        }

        private void goOn() {
            int end = grammar.terminals;
            int x = stack[top];
            int y = nextTerminal();
            if (y == NONE) {
                failHere(STRANGE);
            } else if (x == end && y == end) {
                finish();
            } else {
                int relation = order(x, y);
                if (relation == ABOVE) {
                    reduceLast();
                } else if (relation == BELOW || relation == LIKE) {
                    stackNext(y);
                } else {
                    failHere(NO_RELATION);
                }
            }
        }

        private void finish() {
            ended = true;
            if (behind[0] == NO_NODE) {
                failHere(NO_RULE);
            }
        }

        private int order(int x, int y) {
            if (how == BY_RELATIONS) {
                return relations.between(x, y);
            }
            int compared = ladders.compared(x, y);
            int end = grammar.terminals;
            boolean never = x == end && compared != BELOW || y == end && compared != ABOVE;
            return never ? 0 : compared;
        }

        private void stackNext(int y) {
            if (top >= MOST_STACKED) {
                failHere(DEEP);
                return;
            }
            top++;
            stack[top] = y;
            tokens[top] = next;
            behind[top] = NO_NODE;
            next++;
            steps++;
            most = Math.max(most, top);
        }

        private int handleFrom() {
            int from = top;
            for (; from > 1 && order(stack[from - 1], stack[from]) == LIKE; from--) {
                // like ones stand in one rule
            }
            return from;
        }

        private void reduceLast() {
            int from = handleFrom();
            if (from < 1 || nodes.isFull()) {
                failHere(NO_RULE);
                return;
            }
            handle.gather(stack, behind, from, top);
            int r = handle.ruleOf(grammar);
            if (r == NONE) {
                failHere(NO_RULE);
                return;
            }
            int wrong = makeValue(grammar.deeds[r], tokens[from]);
            if (wrong != 0) {
                failHere(wrong);
                return;
            }
            behind[from - 1] = nodes.count;
            nodes.add(r, handle.first, handle.second, reckoner.isReal, reckoner.bits);
            top = from - 1;
            steps++;
        }

        // 0, or what fails.
        private int makeValue(int deed, int token) {
            int a = handle.first;
            int b = handle.second;
            if (deed == DEED_VALUE) {
                reckoner.set(formula.reals[token], formula.bits[token]);
            } else if (a < 0 || deed <= DEED_OVER && b < 0) {
                return NO_RULE;
            } else if (deed > DEED_OVER) {
                reckoner.changeOne(deed, nodes.reals[a], nodes.bits[a]);
            } else if (nodes.reals[a] || nodes.reals[b]) {
                reckoner.joinReals(deed, realBits(a), realBits(b));
            } else if (deed == DEED_OVER && nodes.bits[b] == 0) {
                return ZERO;
            } else {
                reckoner.joinWholes(deed, nodes.bits[a], nodes.bits[b]);
            }
            int shunned = reckoner.isReal ? WHOLE_DESK : REAL_DESK;
            return grammar.kind == shunned ? WRONG_KIND : 0;
        }

        private int realBits(int node) {
            return nodes.reals[node] ? nodes.bits[node] : Reals.ofWhole(nodes.bits[node]);
        }
    }

    /** The end of the stack that is taken off, as a rule's skeleton. */
    private static final class Handle {
        int first;
        int second;
        private int length;
        private final int[] items = new int[2 * MOST_STACKED + 1];

        void gather(int[] stack, int[] behind, int from, int top) {
            length = 0;
            first = NO_NODE;
            second = NO_NODE;
            addValue(behind[from - 1]);
            for (int i = from; i <= top; i++) {
                addItem(stack[i]);
                addValue(behind[i]);
            }
        }

        private void addItem(int item) {
            if (length < 2 * MOST_STACKED + 1) {
                items[length] = item;
                length++;
            }
        }

        private void addValue(int node) {
            if (node == NO_NODE) {
                return;
            }
            addItem(NAME_ITEM);
            if (first == NO_NODE) {
                first = node;
            } else if (second == NO_NODE) {
                second = node;
            }
        }

        int ruleOf(Grammar grammar) {
            for (int r = 0; r < grammar.rules; r++) {
                if (!grammar.put[r] && grammar.hasSkeleton(r) && matches(grammar, r)) {
                    return r;
                }
            }
            return NONE;
        }

        private boolean matches(Grammar grammar, int r) {
            if (grammar.lengths[r] != length) {
                return false;
            }
            for (int i = 0; i < length; i++) {
                int item = grammar.itemAt(r, i);
                if (items[i] != (Grammar.isName(item) ? NAME_ITEM : item)) {
                    return false;
                }
            }
            return true;
        }
    }

    /** What a deed makes of values: a kind and its bits. */
    private static final class Reckoner {
        boolean isReal;
        int bits;

        void set(boolean real, int valueBits) {
            isReal = real;
            bits = valueBits;
        }

        void changeOne(int deed, boolean real, int a) {
            if (deed == DEED_MINUS) {
                set(real, real ? Reals.negated(a) : -a);
            } else if (deed == DEED_WHOLE) {
                set(false, real ? Reals.toWhole(a) : a);
            } else if (deed == DEED_REAL) {
                set(true, real ? a : Reals.ofWhole(a));
            } else {
                set(real, a);
            }
        }

        void joinWholes(int deed, int a, int b) {
            if (deed == DEED_ADD) {
                set(false, a + b);
            } else if (deed == DEED_LESS) {
                set(false, a - b);
            } else if (deed == DEED_TIMES) {
                set(false, a * b);
            } else {
                set(false, b == 0 ? 0 : a / b);
            }
        }

        void joinReals(int deed, int a, int b) {
            if (deed == DEED_ADD) {
                set(true, Reals.sum(a, b));
            } else if (deed == DEED_LESS) {
                set(true, Reals.sum(a, Reals.negated(b)));
            } else if (deed == DEED_TIMES) {
                set(true, Reals.product(a, b));
            } else {
                set(true, Reals.quotient(a, b));
            }
        }
    }

    /**
     * Floats as their bits. The cases whose answer is no number are told apart by bits, so that
     * no operation on floats ever makes one.
     */
    private static final class Reals {
        private static final int SIGN_BIT = Integer.MIN_VALUE;
        private static final int INFINITE = 0x7f800000;
        private static final int NO_NUMBER = 0x7fc00000;
        private static final long LONG_SIGN_BIT = Long.MIN_VALUE;
        private static final long LONG_INFINITE = 0x7ff0000000000000L;
        private static final long LONG_NO_NUMBER = 0x7ff8000000000000L;
        private static final int MOST_HALVINGS = 400;

        private static boolean isNoNumber(int bits) {
            return (bits & Integer.MAX_VALUE) > INFINITE;
        }

        private static boolean isInfinite(int bits) {
            return (bits & Integer.MAX_VALUE) == INFINITE;
        }

        private static boolean isZero(int bits) {
            return (bits & Integer.MAX_VALUE) == 0;
        }

        static int ofDigits(int digits, int parts) {
            float by = parts == 1 ? 10.0f : parts == 2 ? 100.0f : 1000.0f;
            return bitsOf((float) digits / by);
        }

        static int ofWhole(int whole) {
            float f = (float) whole;
            return f < 0.0f ? bitsOf(0.0f - f) | SIGN_BIT : bitsOf(f);
        }

        static int toWhole(int bits) {
            if (isNoNumber(bits)) {
                return 0;
            }
            if (isInfinite(bits)) {
                return bits < 0 ? Integer.MIN_VALUE : Integer.MAX_VALUE;
            }
            return (int) floatOf(bits);
        }

        static int negated(int bits) {
            return isNoNumber(bits) ? NO_NUMBER : bits ^ SIGN_BIT;
        }

        static int sum(int a, int b) {
            if (isNoNumber(a) || isNoNumber(b)) {
                return NO_NUMBER;
            }
            if (isInfinite(a)) {
                return isInfinite(b) && a != b ? NO_NUMBER : a;
            }
            if (isInfinite(b)) {
                return b;
            }
            float f = floatOf(a) + floatOf(b);
            if (f == 0.0f) {
                return a == SIGN_BIT && b == SIGN_BIT ? SIGN_BIT : 0;
            }
            return f < 0.0f ? bitsOf(0.0f - f) | SIGN_BIT : bitsOf(f);
        }

        static int product(int a, int b) {
            if (isNoNumber(a) || isNoNumber(b) || isInfinite(a) && isZero(b)
                    || isZero(a) && isInfinite(b)) {
                return NO_NUMBER;
            }
            int sign = (a ^ b) & SIGN_BIT;
            if (isInfinite(a) || isInfinite(b)) {
                return sign | INFINITE;
            }
            return sign | bitsOf(floatOf(a & Integer.MAX_VALUE) * floatOf(b & Integer.MAX_VALUE));
        }

        static int quotient(int a, int b) {
            if (isNoNumber(a) || isNoNumber(b) || isInfinite(a) && isInfinite(b)
                    || isZero(a) && isZero(b)) {
                return NO_NUMBER;
            }
            int sign = (a ^ b) & SIGN_BIT;
            if (isInfinite(a) || isZero(b)) {
                return sign | INFINITE;
            }
            if (isInfinite(b) || isZero(a)) {
                return sign;
            }
            return sign | bitsOf(floatOf(a & Integer.MAX_VALUE) / floatOf(b & Integer.MAX_VALUE));
        }

        // Only for bits of a finite float. Doubles hold every step of the halving exactly.
        private static float floatOf(int bits) {
            int field = bits >> 23 & 255;
            int digits = bits & 0x7fffff;
            double d = (double) (field == 0 ? digits : digits + 0x800000);
            int scale = field == 0 ? 1 : field;
            for (; scale < 150; scale++) {
                d = d / 2.0;
            }
            for (; scale > 150; scale--) {
                d = d * 2.0;
            }
            return (float) (bits < 0 ? 0.0 - d : d);
        }

        // Only for floats from 0 on. The field stops at 1, where small floats lose digits.
        private static int bitsOf(float f) {
            if (f > 3.4028235e38f) {
                return INFINITE;
            }
            double d = (double) f;
            int field = 150;
            for (int i = 0; i < MOST_HALVINGS && d >= 16777216.0; i++) {
                d = d / 2.0;
                field++;
            }
            for (int i = 0; i < MOST_HALVINGS && d < 8388608.0 && field > 1; i++) {
                d = d * 2.0;
                field--;
            }
            return (field - 1 << 23) + (int) d;
        }

        static long thirdOfWhole(int whole) {
            double d = (double) whole / 3.0;
            return d < 0.0 ? longBitsOf(0.0 - d) | LONG_SIGN_BIT : longBitsOf(d);
        }

        static long thirdOfReal(int bits) {
            if (isNoNumber(bits)) {
                return LONG_NO_NUMBER;
            }
            long sign = bits < 0 ? LONG_SIGN_BIT : 0L;
            if (isInfinite(bits)) {
                return sign | LONG_INFINITE;
            }
            return sign | longBitsOf((double) floatOf(bits & Integer.MAX_VALUE) / 3.0);
        }

        // Only for 0 and for doubles as large as a float's third.
        private static long longBitsOf(double from) {
            if (from == 0.0) {
                return 0L;
            }
            double d = from;
            long field = 1075;
            for (int i = 0; i < MOST_HALVINGS && d >= 9007199254740992.0; i++) {
                d = d / 2.0;
                field++;
            }
            for (int i = 0; i < MOST_HALVINGS && d < 4503599627370496.0; i++) {
                d = d * 2.0;
                field--;
            }
            return (field - 1 << 52) + (long) d;
        }
    }
}
