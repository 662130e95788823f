import java.util.Random;

/** Made-up formulas of reals and wholes, reckoned beside the class by Java's own floats. */
public final class RealsTests {
    private static final String TEXT =
            "desk mixed;rule s is s + t does add;rule s is s - t does less;rule s is t does same;"
            + "rule t is t * u does times;rule t is t / u does over;rule t is u does same;"
            + "rule u is ~ u does minus;rule u is [ s ] does whole;rule u is = u does real;"
            + "rule u is ( s ) does same;rule u is value does value";
    private static final String[] OPERANDS = {
        "0", "0.0", "1", "3.0", "9999.999", "0.001", "0.007", "1234.567", "9999", "0.5", "17.25",
    };

    private final Random random;
    private final StringBuilder text = new StringBuilder();
    private int tokens;
    private boolean zero;

    private RealsTests(long seed) {
        random = new Random(seed);
    }

    private Number operand() {
        String operand = random.nextInt(3) > 0
                ? OPERANDS[random.nextInt(OPERANDS.length)]
                : random.nextInt(10000) + "." + random.nextInt(1000);
        text.append(operand);
        tokens++;
        int point = operand.indexOf('.');
        if (point < 0) {
            return Integer.valueOf(operand);
        }
        int parts = operand.length() - point - 1;
        float by = parts == 1 ? 10f : parts == 2 ? 100f : 1000f;
        return Integer.parseInt(operand.replace(".", "")) / by;
    }

    private void put(String sign) {
        text.append(sign);
        tokens++;
    }

    private Number unit(int deep) {
        switch (deep > 3 ? 9 : random.nextInt(10)) {
            case 0: {
                put("~");
                Number a = unit(deep + 1);
                return a instanceof Float ? (Number) (-a.floatValue()) : (Number) (-a.intValue());
            }
            case 1: {
                put("[");
                Number a = chain(deep + 1, "+-");
                put("]");
                return a.intValue();
            }
            case 2:
                put("=");
                return unit(deep + 1).floatValue();
            case 3:
            case 4: {
                put("(");
                Number a = chain(deep + 1, random.nextBoolean() ? "*/" : "+-");
                put(")");
                return a;
            }
            default:
                return operand();
        }
    }

    private Number chain(int deep, String signs) {
        Number all = unit(deep);
        char usual = signs.charAt(random.nextInt(2));
        for (int i = random.nextInt(deep == 0 ? 24 : 4); i > 0 && tokens < 50; i--) {
            char sign = random.nextInt(4) == 0 ? signs.charAt(random.nextInt(2)) : usual;
            put(String.valueOf(sign));
            all = join(sign, all, unit(deep));
        }
        return all;
    }

    private Number join(char sign, Number a, Number b) {
        if (a instanceof Integer && b instanceof Integer) {
            int x = a.intValue();
            int y = b.intValue();
            if (sign == '/' && y == 0) {
                zero = true;
                return 0;
            }
            return sign == '+' ? x + y : sign == '-' ? x - y : sign == '*' ? x * y : x / y;
        }
        float x = a.floatValue();
        float y = b.floatValue();
        return sign == '+' ? x + y : sign == '-' ? x - y : sign == '*' ? x * y : x / y;
    }

    private void hold(SignLadders desk) {
        Number want = chain(0, random.nextInt(3) > 0 ? "*/" : "+-");
        if (tokens > 60) {
            return;
        }
        String told = text.toString();
        int steps = Checks.formula(desk, told, random.nextInt(2));
        if (zero || desk.read(0) == 7) {
            Checks.due(told + " is refused", steps, -1);
            return;
        }
        boolean real = want instanceof Float;
        int bits = real ? Float.floatToIntBits((Float) want) : want.intValue();
        Checks.due(told + ": real", desk.value(0), real ? 1 : 0);
        Checks.due(told + ": bits", desk.value(1), bits);
        Checks.due(told + ": as an int", desk.value(2), want.intValue());
        Checks.due(told + ": third", desk.third(), Double.doubleToLongBits(want.doubleValue() / 3));
    }

    public static void main(String[] args) {
        int runs = args.length > 0 ? Integer.parseInt(args[0]) : 20000;
        SignLadders desk = null;
        for (int i = 0; i < runs; i++) {
            // A desk answers 512 calls; a formula takes some thirty of them at most.
            if (i % 15 == 0) {
                desk = Checks.deskOf(TEXT);
            }
            new RealsTests(i).hold(desk);
        }
        Checks.end();
    }
}
