import java.math.BigDecimal;
import java.math.BigInteger;

/** Runs of 512 calls, chosen by a fixed row of numbers, on the class and on the model: every answer is the same. */
public final class RandomRunsTest {
    private static final int RUNS = 2500;
    private static final int CALLS = 512;

    /* An output up to so long is looked at whole, a longer one at so many places. */
    private static final int LOOKS = 30;

    /* The calls of a step and of the looks behind it, but for the text that a step types. */
    private static final int STEP_CALLS = LOOKS + 12;

    private static final int[] BASES = {2, 3, 7, 8, 10, 10, 10, 10, 15, 16};
    private static final long[] LONGS = {0, 1, 2, 3, 10, (1L << 52) - 1, 1L << 52, (1L << 53) - 1, 1L << 53,
        (1L << 53) + 1, Long.MAX_VALUE, Long.MAX_VALUE - 511, Long.MAX_VALUE - 512, Long.MIN_VALUE, -1};
    private static final int[] PLACES = {-2000, -1999, -1138, -1137, -1127, -1126, -1075, -1074, -1073, -53, -1, 0, 1,
        908, 909, 960, 961, 962, 970, 971, 972, 1023, 1024, 1999, 2000};

    private final Check check = new Check("RandomRunsTest");
    private long seed = 20261116;
    private DoubleTexts object;
    private Model model;
    private String told;
    private int calls;

    public static void main(String[] args) {
        RandomRunsTest test = new RandomRunsTest();
        for (int run = 0; run < RUNS; run++) {
            test.run(run);
        }
        test.check.end();
    }

    private int below(int bound) {
        return (int) Long.remainderUnsigned(next(), bound);
    }

    private long next() {
        seed = seed * 6364136223846793005L + 1442695040888963407L;
        long mixed = (seed ^ seed >>> 31) * 0x9E3779B97F4A7C15L;
        return mixed ^ mixed >>> 29;
    }

    private void run(int run) {
        object = new DoubleTexts();
        model = new Model();
        told = "run " + run + ":";
        calls = 0;
        String text = text();
        while (calls + text.length() + STEP_CALLS <= CALLS) {
            if (below(10) < 4) {
                clear();
                typeAll(text);
                read();
                text = text();
            } else {
                step();
            }
            lookAtAll();
        }
        while (calls < CALLS) {
            out(below(model.output().length() + 1));
        }
    }

    private void step() {
        switch (below(6)) {
            case 0:
                make(below(2) == 0, someLong(), somePlace());
                break;
            case 1:
                divide(someLong(), someLong());
                break;
            case 2:
                due("exact()", object.exact() ? 1 : 0, model.exact() ? 1 : 0);
                break;
            case 3:
                due("inexact()", object.inexact() ? 1 : 0, model.inexact() ? 1 : 0);
                break;
            case 4:
                due("back()", object.back() ? 1 : 0, model.back() ? 1 : 0);
                read();
                break;
            default:
                int code = below(140) - 6;
                due("type(" + code + ")", object.type(code), model.type(code));
                read();
                break;
        }
    }

    private void lookAtAll() {
        due("kind()", object.kind(), model.kind());
        due("negative()", object.negative() ? 1 : 0, model.negative() ? 1 : 0);
        due("units()", object.units(), model.units());
        due("place()", object.place(), model.place());
        due("bits(false)", object.bits(false), model.bits(false));
        due("bits(true)", object.bits(true), model.bits(true));
        int base = below(8) == 0 ? below(24) - 3 : BASES[below(BASES.length)];
        due("write(" + base + ")", object.write(base), model.write(base));
        int length = model.output().length();
        for (int i = 0; i < Math.min(length + 1, LOOKS); i++) {
            out(length < LOOKS ? i : below(length + 1));
        }
    }

    private void out(int i) {
        due("out(" + i + ")", object.out(i), model.out(i));
    }

    private void due(String call, long got, long want) {
        counted();
        check.due(told + " " + call, got, want);
    }

    private void counted() {
        calls++;
        if (calls > CALLS) {
            throw new IllegalStateException("the test makes more than " + CALLS + " calls of one object");
        }
    }

    private void clear() {
        counted();
        object.clear();
        model.clear();
    }

    private void typeAll(String text) {
        told = told.substring(0, told.indexOf(':') + 1) + " " + text;
        for (int i = 0; i < text.length(); i++) {
            due("type", object.type(text.charAt(i)), model.type(text.charAt(i)));
        }
    }

    private void read() {
        due("read()", object.read(), model.read());
    }

    private void make(boolean negative, long units, int place) {
        due("make(" + negative + ", " + units + ", " + place + ")",
            object.make(negative, units, place) ? 1 : 0, model.make(negative, units, place) ? 1 : 0);
    }

    private void divide(long n, long d) {
        due("divide(" + n + ", " + d + ")", object.divide(n, d) ? 1 : 0, model.divide(n, d) ? 1 : 0);
    }

    private long someLong() {
        switch (below(4)) {
            case 0:
                return LONGS[below(LONGS.length)];
            case 1:
                return below(200) - 10;
            case 2:
                return next() >>> 1 + below(62);
            default:
                return next();
        }
    }

    private int somePlace() {
        switch (below(3)) {
            case 0:
                return PLACES[below(PLACES.length)];
            case 1:
                return below(4200) - 2100;
            default:
                return below(140) - 1140;
        }
    }

    private String text() {
        StringBuilder text = new StringBuilder();
        switch (below(6)) {
            case 0:
                text.append(ratio());
                break;
            case 1:
                text.append(halfway());
                break;
            case 2:
                text.append(prefix()).append(sign()).append(below(2) == 0 ? "inf.0" : "nan.0");
                break;
            case 3:
                text.append(below(3) == 0 ? "#e" : "").append(sign()).append(Math.abs(someDouble()));
                break;
            default:
                text.append(below(2) == 0 ? "#e" : "").append(decimal());
                break;
        }
        return below(6) == 0 ? spoiled(text) : text.toString();
    }

    private String spoiled(StringBuilder text) {
        String marks = "+-./eE#xinf0a9G \0\u007f";
        char mark = marks.charAt(below(marks.length()));
        int at = below(text.length() + 1);
        if (below(3) == 0 && at < text.length()) {
            text.deleteCharAt(at);
        } else {
            text.insert(at, mark);
        }
        return text.toString();
    }

    private String prefix() {
        String[] bases = {"", "", "#x", "#b", "#o", "#d"};
        String[] made = {"", "", "#e", "#i"};
        String base = bases[below(bases.length)];
        String exactness = made[below(made.length)];
        return below(2) == 0 ? base + exactness : exactness + base;
    }

    private String sign() {
        return new String[] {"", "+", "-"}[below(3)];
    }

    private String ratio() {
        String prefix = prefix();
        int base = prefix.contains("x") ? 16 : prefix.contains("b") ? 2 : prefix.contains("o") ? 8 : 10;
        int length = 1 + below(below(8) == 0 ? 190 : 12);
        String text = prefix + sign() + digits(length, base);
        if (below(3) == 0) {
            return text;
        }
        if (below(3) == 0) {
            // A common factor, so that there is something to bring to lowest terms.
            BigInteger factor = new BigInteger(digits(1 + below(40), 10));
            BigInteger n = new BigInteger(digits(1 + below(60), 10)).multiply(factor);
            BigInteger d = new BigInteger(digits(1 + below(60), 10)).multiply(factor);
            return prefix + sign() + n.toString(base) + "/" + d.toString(base);
        }
        return text + "/" + digits(1 + below(length), base);
    }

    private String digits(int count, int base) {
        String all = below(2) == 0 ? "0123456789abcdef" : "0123456789ABCDEF";
        StringBuilder text = new StringBuilder();
        boolean zeros = below(5) == 0;
        for (int i = 0; i < count; i++) {
            text.append(zeros && i > 0 ? '0' : all.charAt(below(base)));
        }
        return text.toString();
    }

    private String decimal() {
        StringBuilder text = new StringBuilder(sign());
        StringBuilder digits = new StringBuilder(digits(1 + below(below(10) == 0 ? 380 : 20), 10));
        if (below(3) > 0) {
            digits.insert(below(digits.length() + 1), '.');
        }
        text.append(digits);
        if (below(3) > 0) {
            int[] bounds = {10, 30, 340, 1700, 9999};
            int bound = bounds[below(bounds.length)];
            text.append(below(2) == 0 ? 'e' : 'E').append(sign()).append(below(bound + 1));
        }
        return text.toString();
    }

    /** The middle of two doubles, or a little above or below it. */
    private String halfway() {
        double value = below(4) == 0 ? Double.MIN_VALUE * below(50) : Math.abs(someDouble());
        BigDecimal up = Math.nextUp(value) == Double.POSITIVE_INFINITY
            ? new BigDecimal(BigInteger.ONE.shiftLeft(1024)) : new BigDecimal(Math.nextUp(value));
        BigDecimal middle = new BigDecimal(value).add(up).divide(BigDecimal.valueOf(2));
        String digits = middle.unscaledValue().toString();
        if (digits.length() > 380) {
            digits = digits.substring(0, 380);
        }
        int tens = middle.unscaledValue().toString().length() - digits.length() - middle.scale();
        BigInteger moved = new BigInteger(digits + "0").add(BigInteger.valueOf(below(3) - 1));
        return sign() + moved + "e" + (tens - 1);
    }

    private double someDouble() {
        switch (below(5)) {
            case 0:
                return Double.MAX_VALUE;
            case 1:
                return Math.scalb(1.0, below(2098) - 1074);
            case 2:
                return Math.scalb((double) (next() >>> 11), below(120) - 90);
            default:
                double value = Double.longBitsToDouble(next());
                return value != value || Double.isInfinite(value) ? 0.1 : value;
        }
    }
}
