import java.math.BigDecimal;
import java.math.BigInteger;
import java.util.Map;
import java.util.function.Consumer;

/** The sentences about boundaries in promises 5 to 13 and those of the section Terms on the nearest and on finite doubles. */
public final class NumberEdgesTest {
    private static final Edges EDGES = new Edges("NumberEdgesTest");
    private static final BigInteger ONE = BigInteger.ONE;
    private static final BigInteger FINE = BigInteger.TEN.pow(20);
    private static final double INFINITE = Double.POSITIVE_INFINITY;
    private static final double LEAST = Double.MIN_VALUE;
    private static final double GREATEST = Double.MAX_VALUE;
    private static final long UNITS = 1L << 52;

    public static void main(String[] args) {
        evenOfTwoAsNear();
        evenOfTwoAsNearTheLeast();
        infiniteFrom2To1024();
        evenLastBitOfMake();
        evenLastBitOfDivide();
        zerosWithASign();
        unitsOfFiniteDoubles();
        makeOfAllPlaces();
        makeOfZero();
        makeRefuses();
        divideByOneAndMore();
        divideOfTheGreatest();
        divideRefuses();
        exactOfFiniteDoubles();
        exactRefuses();
        inexactOfExactNumbers();
        inexactRefuses();
        kinds();
        signs();
        unitsAndPlaceOfOthers();
        placeZeroOfADouble();
        bitsOnEitherSide();
        bitsOfOthers();
        callsThatOnlyTell();
        EDGES.end();
    }

    private static BigInteger twoTo(int power) {
        return ONE.shiftLeft(power);
    }

    /** n / d is the middle of the doubles low and high; a little less is nearer to low, a little more to high. */
    private static void middle(BigInteger n, BigInteger d, double low, double high, double even) {
        BigInteger fineD = d.multiply(FINE);
        near(n, d, even);
        near(n.multiply(FINE).subtract(ONE), fineD, low);
        near(n.multiply(FINE).add(ONE), fineD, high);
    }

    private static void near(BigInteger n, BigInteger d, double due) {
        String ratio = n + "/" + d;
        EDGES.inexact("#i" + ratio, due);
        EDGES.inexact("#i-" + ratio, -due);
        inexactOf(ratio, due);
        inexactOf("-" + ratio, -due);
    }

    /** The exact number of the text becomes this double. */
    private static void inexactOf(String text, double due) {
        Subject x = Subject.having(text);
        EDGES.due("inexact() of " + text, x.inexact(), 1);
        EDGES.due("number after inexact() of " + text, x.number(), Edges.numberOf(due));
    }

    private static void evenOfTwoAsNear() {
        EDGES.sentence("NEAREST: of two doubles as near the one with an even last bit");
        BigInteger great = twoTo(53);
        middle(great.add(ONE), ONE, 0x1p53, 0x1p53 + 2, 0x1p53);
        middle(great.add(BigInteger.valueOf(3)), ONE, 0x1p53 + 2, 0x1p53 + 4, 0x1p53 + 4);
        middle(great.add(ONE), great, 1, 1 + 0x1p-52, 1);
        middle(great.add(BigInteger.valueOf(3)), great, 1 + 0x1p-52, 1 + 0x1p-51, 1 + 0x1p-51);
        // Below a power of two the doubles are twice as dense.
        middle(twoTo(54).subtract(ONE), twoTo(54), 1 - 0x1p-53, 1, 1);
        middle(twoTo(54).subtract(BigInteger.valueOf(3)), twoTo(54), 1 - 0x1p-52, 1 - 0x1p-53, 1 - 0x1p-52);
        EDGES.inexact("9007199254740992.999999999999999999999999", 0x1p53);
        EDGES.inexact("9007199254740993.", 0x1p53);
        EDGES.inexact("9007199254740993.000000000000000000000001", 0x1p53 + 2);
        EDGES.inexact("9007199254740994.999999999999999999999999", 0x1p53 + 2);
        EDGES.inexact("9007199254740995.", 0x1p53 + 4);
        EDGES.inexact("900719925474099300e-2", 0x1p53);
        EDGES.inexact("-9007199254740995e0", -0x1p53 - 4);
        String middle = "1.00000000000000011102230246251565404236316680908203125";
        EDGES.inexact(middle, 1);
        EDGES.inexact(middle + "0".repeat(340) + "1", 1 + 0x1p-52);
        EDGES.inexact(middle.substring(0, middle.length() - 1) + "4" + "9".repeat(340), 1);
    }

    private static void evenOfTwoAsNearTheLeast() {
        EDGES.sentence("NEAREST: of two doubles as near the one with an even last bit");
        BigInteger d = twoTo(1075);
        middle(ONE, d, 0.0, LEAST, 0.0);
        middle(BigInteger.valueOf(3), d, LEAST, 2 * LEAST, 2 * LEAST);
        middle(BigInteger.valueOf(5), d, 2 * LEAST, 3 * LEAST, 2 * LEAST);
        middle(twoTo(53).subtract(ONE), d, Double.MIN_NORMAL - LEAST, Double.MIN_NORMAL, Double.MIN_NORMAL);
        middle(twoTo(53).add(ONE), d, Double.MIN_NORMAL, Double.MIN_NORMAL + LEAST, Double.MIN_NORMAL);
        middle(twoTo(54).subtract(ONE), d, 2 * Double.MIN_NORMAL - LEAST, 2 * Double.MIN_NORMAL, 2 * Double.MIN_NORMAL);
        // 2^-1075 has more digits than a text: they are cut off, and then the last one is raised.
        BigInteger digits = new BigDecimal(0.5).pow(1075).unscaledValue();
        BigInteger cut = digits.divide(BigInteger.TEN.pow(digits.toString().length() - 390));
        int tens = digits.toString().length() - 390 - 1075;
        EDGES.inexact(cut + "e" + tens, 0.0);
        EDGES.inexact(cut.add(ONE) + "e" + tens, LEAST);
        EDGES.inexact("-" + cut + "e" + tens, -0.0);
        EDGES.inexact("-" + cut.add(ONE) + "e" + tens, -LEAST);
    }

    private static void infiniteFrom2To1024() {
        EDGES.sentence("2^1024 counts as one, which is infinite then.");
        BigInteger greatest = twoTo(1024).subtract(twoTo(971));
        BigInteger middle = twoTo(1024).subtract(twoTo(970));
        middle(middle, ONE, GREATEST, INFINITE, INFINITE);
        near(greatest, ONE, GREATEST);
        near(greatest.add(ONE), ONE, GREATEST);
        near(middle.subtract(ONE), ONE, GREATEST);
        near(twoTo(1024).subtract(ONE), ONE, INFINITE);
        near(twoTo(1024), ONE, INFINITE);
        middle(middle.subtract(twoTo(971)), ONE, Math.nextDown(GREATEST), GREATEST, Math.nextDown(GREATEST));
        EDGES.inexact(middle + ".", INFINITE);
        EDGES.inexact("-" + middle + ".", -INFINITE);
        EDGES.inexact(middle.subtract(ONE) + "." + "9".repeat(80), GREATEST);
        EDGES.inexact("1.797693134862315807e308", GREATEST);
        EDGES.inexact("1.797693134862315808e308", INFINITE);
        EDGES.inexact("1e308", 1e308);
        EDGES.inexact("1e309", INFINITE);
        EDGES.inexact("." + "0".repeat(80) + "1e389", 1e308);
        EDGES.inexact("." + "0".repeat(80) + "1e390", INFINITE);
        made(2 * UNITS - 1, 971, GREATEST);
        made(2 * UNITS, 971, INFINITE);
        made(4 * UNITS - 1, 970, INFINITE);
        made(4 * UNITS - 2, 970, GREATEST);
        made(8 * UNITS - 3, 969, GREATEST);
        made(8 * UNITS - 2, 969, INFINITE);
        made((1L << 63) - (1L << 9) - 1, 961, GREATEST);
        made((1L << 63) - (1L << 9), 961, INFINITE);
        made(1, 1023, 0x1p1023);
        made(1, 1024, INFINITE);
    }

    private static void made(long units, int place, double due) {
        boolean[] signs = {false, true};
        for (boolean minus : signs) {
            Subject x = new Subject();
            String call = "make(" + minus + ", " + units + ", " + place + ")";
            EDGES.due(call, x.make(minus, units, place), 1);
            EDGES.due("number after " + call, x.number(), Edges.numberOf(minus ? -due : due));
        }
    }

    private static void evenLastBitOfMake() {
        EDGES.sentence("The number becomes the double nearest to units * 2^place");
        made(2 * UNITS - 1, 0, 0x1p53 - 1);
        made(2 * UNITS + 1, 0, 0x1p53);
        made(2 * UNITS + 3, 0, 0x1p53 + 4);
        made((1L << 62) + (1L << 9), 0, 0x1p62);
        made((1L << 62) + (1L << 9) + 1, 0, 0x1p62 + 1024);
        made((1L << 62) + (3L << 9) - 1, 0, 0x1p62 + 1024);
        made((1L << 62) + (3L << 9), 0, 0x1p62 + 2048);
        made(Long.MAX_VALUE, 0, 0x1p63);
        made(Long.MAX_VALUE - 511, 0, 0x1p63);
        made(Long.MAX_VALUE - 512, 0, 0x1p63 - 1024);
        made(1, -1074, LEAST);
        made(1, -1075, 0.0);
        made(3, -1076, LEAST);
        made(2, -1076, 0.0);
        made(3, -1075, 2 * LEAST);
        made(5, -1075, 2 * LEAST);
        made(7, -1075, 4 * LEAST);
        made(1L << 62, -1137, 0.0);
        made((1L << 62) + 1, -1137, LEAST);
        made(Long.MAX_VALUE, -1137, LEAST);
        made(Long.MAX_VALUE, -1138, 0.0);
        made(2 * UNITS - 1, -1075, Double.MIN_NORMAL);
        made(2 * UNITS - 2, -1075, Double.MIN_NORMAL - LEAST);
        made(UNITS - 1, -1074, Double.MIN_NORMAL - LEAST);
        made(UNITS, -1074, Double.MIN_NORMAL);
    }

    private static void divided(long n, long d, double due) {
        Subject x = new Subject();
        String call = "divide(" + n + ", " + d + ")";
        EDGES.due(call, x.divide(n, d), 1);
        EDGES.due("number after " + call, x.number(), Edges.numberOf(due));
    }

    private static void evenLastBitOfDivide() {
        EDGES.sentence("The number becomes the double nearest to n / d: true");
        divided(2 * UNITS + 1, 1, 0x1p53);
        divided(-2 * UNITS - 3, 1, -0x1p53 - 4);
        divided(4 * UNITS + 1, 2, 0x1p53);
        divided(4 * UNITS + 2, 2, 0x1p53);
        divided(4 * UNITS + 3, 2, 0x1p53 + 2);
        divided(4 * UNITS + 5, 2, 0x1p53 + 2);
        divided(4 * UNITS + 6, 2, 0x1p53 + 4);
        // (2^53 + 1) / 2^53 is the middle of 1 and the double above it.
        divided(2 * UNITS + 1, 2 * UNITS, 1);
        divided(512 * (2 * UNITS + 1) + 1, 512 * (2 * UNITS), 1 + 0x1p-52);
        divided(512 * (2 * UNITS + 1) - 1, 512 * (2 * UNITS), 1);
        divided(2 * UNITS + 3, 2 * UNITS, 1 + 0x1p-51);
        divided(1, 3, 1.0 / 3);
        divided(2, 3, 2.0 / 3);
    }

    private static void zerosWithASign() {
        EDGES.sentence("A zero with the sign - is -0.0 as a double.");
        String[] bodies = {"0.", ".0", "0.0", "0e0", "0e9999", "0e-9999", "1e-400", "2e-324"};
        for (String body : bodies) {
            EDGES.inexact(body, 0.0);
            EDGES.inexact("+" + body, 0.0);
            EDGES.inexact("-" + body, -0.0);
            EDGES.inexact("#i-" + body, -0.0);
        }
        String[] ratios = {"0", "0/1", "0/7", "00"};
        for (String ratio : ratios) {
            EDGES.inexact("#i" + ratio, 0.0);
            EDGES.inexact("#i+" + ratio, 0.0);
            EDGES.inexact("#i-" + ratio, -0.0);
            EDGES.exact("-" + ratio, "0");
            EDGES.exact("#e-" + ratio, "0");
            inexactOf("-" + ratio, 0.0);
        }
        EDGES.exact("#e-0.0", "0");
        EDGES.due("write(10) of -0.0", Subject.having("-0.0").written(10), "-0.0");
        EDGES.due("write(10) of 0.0", Subject.having("0.0").written(10), "0.0");
    }

    private static void unitsOfFiniteDoubles() {
        EDGES.sentence("the units from 2^52 to 2^53 - 1, or less with the place -1074.");
        double[] values = {0.0, LEAST, Double.MIN_NORMAL - LEAST, Double.MIN_NORMAL, 2 * Double.MIN_NORMAL - LEAST,
            2 * Double.MIN_NORMAL, 1 - 0x1p-53, 1, 2 - 0x1p-52, 2, GREATEST};
        long[] units = {0, 1, UNITS - 1, UNITS, 2 * UNITS - 1, UNITS, 2 * UNITS - 1, UNITS, 2 * UNITS - 1, UNITS, 2 * UNITS - 1};
        int[] places = {-1074, -1074, -1074, -1074, -1074, -1073, -53, -52, -52, -51, 971};
        for (int i = 0; i < values.length; i++) {
            Subject read = Subject.having(Model.writtenDouble(values[i]));
            EDGES.due("units() of " + values[i], read.units(), units[i]);
            EDGES.due("place() of " + values[i], read.place(), places[i]);
            Subject made = new Subject();
            made.make(true, units[i], places[i]);
            EDGES.due("units() of -" + values[i], made.units(), units[i]);
            EDGES.due("place() of -" + values[i], made.place(), places[i]);
        }
        // The same value by other units: they come out from 2^52 to 2^53 - 1 all the same.
        for (int shift = 0; shift <= 62; shift++) {
            made(1L << shift, -shift, 1);
            made(1L << shift, -1074 - shift, LEAST);
            made(1L << shift, -1022 - shift, Double.MIN_NORMAL);
            made(1L << shift, 1023 - shift, 0x1p1023);
            made(1L << shift, 1024 - shift, INFINITE);
        }
    }

    private static void makeOfAllPlaces() {
        EDGES.sentence("place not -2000 .. 2000");
        made(1, -2000, 0.0);
        made(Long.MAX_VALUE, -2000, 0.0);
        made(1, -1999, 0.0);
        made(1, 2000, INFINITE);
        made(Long.MAX_VALUE, 2000, INFINITE);
        made(1, 1999, INFINITE);
        made(0, -2000, 0.0);
        made(0, 2000, 0.0);
        for (int place = -2000; place <= 2000; place++) {
            made(1, place, place < -1074 ? 0.0 : place > 1023 ? INFINITE : Math.scalb(1.0, place));
        }
    }

    private static void makeOfZero() {
        EDGES.sentence("or -0.0 for negative and units 0: true");
        int[] places = {-2000, -1075, -1074, -1, 0, 1, 971, 972, 2000};
        for (int place : places) {
            Subject plus = new Subject();
            EDGES.due("make(false, 0, " + place + ")", plus.make(false, 0, place), 1);
            EDGES.due("number after it", plus.number(), "2 0 0 -1074 -1 -1");
            EDGES.due("write(10) after it", plus.written(10), "0.0");
            Subject minus = new Subject();
            EDGES.due("make(true, 0, " + place + ")", minus.make(true, 0, place), 1);
            EDGES.due("number after it", minus.number(), "2 1 0 -1074 -1 -1");
            EDGES.due("write(10) after it", minus.written(10), "-0.0");
            EDGES.due("exact() after it", minus.exact(), 1);
            EDGES.due("number after exact()", minus.number(), "1 0 -1 0 0 1");
        }
    }

    private static void makeRefuses() {
        EDGES.sentence("false, and nothing is done, if units is below 0 or place not -2000 .. 2000.");
        long[] units = {-1, -2, Long.MIN_VALUE, Long.MIN_VALUE + 1, -1L << 32};
        for (long wrong : units) {
            EDGES.refusedEverywhere("make(false, " + wrong + ", 0)", 0, x -> x.make(false, wrong, 0));
            EDGES.refusedEverywhere("make(true, " + wrong + ", 2000)", 0, x -> x.make(true, wrong, 2000));
        }
        int[] places = {-2001, 2001, -2002, 2002, Integer.MIN_VALUE, Integer.MAX_VALUE, Integer.MIN_VALUE + 2000, 65536, -65536};
        for (int wrong : places) {
            EDGES.refusedEverywhere("make(false, 1, " + wrong + ")", 0, x -> x.make(false, 1, wrong));
            EDGES.refusedEverywhere("make(true, 0, " + wrong + ")", 0, x -> x.make(true, 0, wrong));
            EDGES.refusedEverywhere("make(true, -1, " + wrong + ")", 0, x -> x.make(true, -1, wrong));
        }
    }

    private static void divideByOneAndMore() {
        EDGES.sentence("The number becomes the double nearest to n / d: true");
        divided(0, 1, 0.0);
        divided(0, Long.MAX_VALUE, 0.0);
        divided(1, 1, 1);
        divided(-1, 1, -1);
        divided(1, 2, 0.5);
        divided(-1, 2, -0.5);
        divided(7, 7, 1);
        divided(6, 7, 6.0 / 7);
        divided(8, 7, 8.0 / 7);
    }

    private static void divideOfTheGreatest() {
        EDGES.sentence("The number becomes the double nearest to n / d: true");
        long most = Long.MAX_VALUE;
        long least = Long.MIN_VALUE;
        divided(most, 1, 0x1p63);
        divided(least, 1, -0x1p63);
        divided(least + 1, 1, -0x1p63);
        divided(most, most, 1);
        divided(least, most, -1);
        divided(least + 1, most, -1);
        divided(1, most, 0x1p-63);
        divided(-1, most, -0x1p-63);
        divided(most - 1, most, 1);
        divided(least, 1L << 62, -2);
        divided(least, 3, -0x1.5555555555555p61);
        divided(1, 1L << 62, 0x1p-62);
    }

    private static void divideRefuses() {
        EDGES.sentence("false, and nothing is done, if d is not above 0.");
        long[] tops = {0, 1, -1, Long.MAX_VALUE, Long.MIN_VALUE};
        long[] bottoms = {0, -1, -2, Long.MIN_VALUE, Long.MIN_VALUE + 1, -1L << 32};
        for (long n : tops) {
            for (long d : bottoms) {
                EDGES.refusedEverywhere("divide(" + n + ", " + d + ")", 0, x -> x.divide(n, d));
            }
        }
    }

    private static void exactOf(double value, String written) {
        Subject x = Subject.having(Model.writtenDouble(value));
        EDGES.due("exact() of " + value, x.exact(), 1);
        EDGES.due("kind() after it", x.kind(), 1);
        EDGES.due("negative() after it", x.negative(), written.startsWith("-") ? 1 : 0);
        EDGES.due("write(10) after it", x.written(10), written);
    }

    private static void exactOfFiniteDoubles() {
        EDGES.sentence("The number becomes exact, if it is a finite double: true");
        exactOf(0.0, "0");
        exactOf(-0.0, "0");
        exactOf(1, "1");
        exactOf(-1, "-1");
        exactOf(0.5, "1/2");
        exactOf(-1.5, "-3/2");
        exactOf(0x1p52, twoTo(52).toString());
        exactOf(0x1p53, twoTo(53).toString());
        exactOf(0x1p52 - 0.5, 2 * UNITS - 1 + "/2");
        exactOf(LEAST, "1/" + twoTo(1074));
        exactOf(-LEAST, "-1/" + twoTo(1074));
        exactOf(2 * LEAST, "1/" + twoTo(1073));
        exactOf(3 * LEAST, "3/" + twoTo(1074));
        exactOf(Double.MIN_NORMAL, "1/" + twoTo(1022));
        exactOf(Double.MIN_NORMAL - LEAST, UNITS - 1 + "/" + twoTo(1074));
        exactOf(GREATEST, twoTo(1024).subtract(twoTo(971)).toString());
        exactOf(-GREATEST, "-" + twoTo(1024).subtract(twoTo(971)));
    }

    private static void exactRefuses() {
        EDGES.sentence("false, and nothing is done, if it is none such.");
        for (Map.Entry<String, Consumer<Subject>> state : State.all().entrySet()) {
            Subject x = Subject.after(state.getValue());
            if (x.kind() == 2) {
                EDGES.due("exact() of " + state.getKey(), x.exact(), 1);
            } else {
                EDGES.refused(state.getKey(), state.getValue(), "exact()", 0, Subject::exact);
            }
        }
        EDGES.refused("2^1024", x -> x.make(false, 1, 1024), "exact()", 0, Subject::exact);
        Consumer<Subject> twice = x -> {
            x.make(true, 3, -1);
            x.exact();
        };
        EDGES.refused("a double made exact", twice, "exact()", 0, Subject::exact);
    }

    private static void inexactOfExactNumbers() {
        EDGES.sentence("The number becomes the nearest double, if it is exact: true");
        inexactOf("0", 0.0);
        inexactOf("1", 1);
        inexactOf("-1/2", -0.5);
        inexactOf("#e1e308", 1e308);
        inexactOf("#e1e309", INFINITE);
        inexactOf("#e-1e1233", -INFINITE);
        inexactOf("#e1e-323", 1e-323);
        inexactOf("#e3e-324", LEAST);
        inexactOf("#e2e-324", 0.0);
        inexactOf("#e-2e-324", -0.0);
        inexactOf("#e1e-1233", 0.0);
        inexactOf("#e" + "9".repeat(380) + "e-380", 1);
        // A numerator and a denominator whose bits are far from each other's, and the greatest that there are.
        BigInteger most = twoTo(4096).divide(BigInteger.TEN.pow(850));
        inexactOf("#e" + most + "e850", INFINITE);
        inexactOf("#e" + "9".repeat(390) + "e-1233", 0.0);
        inexactOf("#e" + "9".repeat(390) + "e-690", 1e-300);
    }

    private static void inexactRefuses() {
        EDGES.sentence("The number becomes the nearest double, if it is exact: true; else false.");
        for (Map.Entry<String, Consumer<Subject>> state : State.all().entrySet()) {
            Subject x = Subject.after(state.getValue());
            if (x.kind() == 1) {
                EDGES.due("inexact() of " + state.getKey(), x.inexact(), 1);
            } else {
                EDGES.refused(state.getKey(), state.getValue(), "inexact()", 0, Subject::inexact);
            }
        }
        Consumer<Subject> twice = x -> {
            x.retype("-22/7");
            x.read();
            x.inexact();
        };
        EDGES.refused("an exact number made inexact", twice, "inexact()", 0, Subject::inexact);
    }

    private static void kinds() {
        EDGES.sentence("0 none, 1 exact, 2 a finite double, 3 infinite, 4 a NaN.");
        String[] texts = {"", "1/0", "0", "1/2", "0.0", "-0.0", "5e-324", "1.7976931348623157e308", "1.7976931348623159e308",
            "-1.7976931348623157e308", "-1.7976931348623159e308", "+inf.0", "-inf.0", "+nan.0", "-nan.0", "#e1e1233", "#e1e1234"};
        long[] kinds = {0, 0, 1, 1, 2, 2, 2, 2, 3, 2, 3, 3, 3, 4, 4, 1, 0};
        for (int i = 0; i < texts.length; i++) {
            EDGES.due("kind() of " + texts[i], Subject.having(texts[i]).kind(), kinds[i]);
        }
    }

    private static void signs() {
        EDGES.sentence("of an exact one below 0, of a double that is no NaN with the sign 1 (-0.0 too).");
        String[] texts = {"", "-", "-1", "-0", "0", "1", "-1/1000000", "#e-1e-1233", "-0.0", "0.0", "-5e-324", "5e-324", "-1e-400",
            "-inf.0", "+inf.0", "-1e400", "-nan.0", "+nan.0"};
        long[] signs = {0, 0, 1, 0, 0, 0, 1, 1, 1, 0, 1, 0, 1, 1, 0, 1, 0, 0};
        for (int i = 0; i < texts.length; i++) {
            EDGES.due("negative() of " + texts[i], Subject.having(texts[i]).negative(), signs[i]);
            Subject later = Subject.having("-1.5");
            later.retype(texts[i]);
            later.read();
            EDGES.due("negative() of " + texts[i] + " after -1.5", later.negative(), signs[i]);
        }
        Subject x = Subject.having("-0.0");
        x.exact();
        EDGES.due("negative() of -0.0 made exact", x.negative(), 0);
        x.inexact();
        EDGES.due("negative() of that made inexact", x.negative(), 0);
    }

    private static void unitsAndPlaceOfOthers() {
        String[] texts = {"", "what", "0", "1", "-1/2", "+inf.0", "-inf.0", "+nan.0", "1e400"};
        for (String text : texts) {
            Subject x = new Subject();
            x.make(false, 3, -7);
            x.retype(text);
            x.read();
            EDGES.sentence("Of a finite double; -1 if it is none.");
            EDGES.due("units() of " + text, x.units(), -1);
            EDGES.sentence("Of a finite double; 0 if it is none.");
            EDGES.due("place() of " + text, x.place(), 0);
        }
    }

    private static void placeZeroOfADouble() {
        EDGES.sentence("Of a finite double; 0 if it is none.");
        double[] values = {0x1p52 - 0.5, 0x1p52, 0x1p53 - 1, 0x1p53};
        long[] units = {2 * UNITS - 1, UNITS, 2 * UNITS - 1, UNITS};
        int[] places = {-1, 0, 0, 1};
        for (int i = 0; i < values.length; i++) {
            Subject x = Subject.having(Model.writtenDouble(values[i]));
            EDGES.due("place() of " + values[i], x.place(), places[i]);
            EDGES.due("units() of " + values[i], x.units(), units[i]);
        }
    }

    private static void bitsOnEitherSide() {
        EDGES.sentence("The bits of the numerator (denominator false) or denominator of an exact number's absolute value");
        int[] powers = {1, 2, 8, 31, 32, 33, 63, 64, 65, 127, 128, 760};
        for (int power : powers) {
            BigInteger great = twoTo(power);
            bitsOf(great.subtract(ONE), ONE, power, 1);
            bitsOf(great, ONE, power + 1, 1);
            bitsOf(great.negate(), ONE, power + 1, 1);
            bitsOf(ONE, great, 1, power + 1);
            bitsOf(great.subtract(ONE).negate(), great, power, power + 1);
            bitsOf(great, great.add(ONE), power + 1, power + 1);
        }
        bitsOf(BigInteger.ZERO, ONE, 0, 1);
        bitsOf(ONE, ONE, 1, 1);
        bitsOf(ONE.negate(), ONE, 1, 1);
        EDGES.due("bits(false) of -0/3", Subject.having("-0/3").bits(false), 0);
        EDGES.due("bits(true) of -0/3", Subject.having("-0/3").bits(true), 1);
        EDGES.due("bits(false) of 10^1233", Subject.having("#e-1e1233").bits(false), 4096);
        EDGES.due("bits(true) of 10^-1233", Subject.having("#e-1e-1233").bits(true), 4096);
    }

    private static void bitsOf(BigInteger n, BigInteger d, int top, int bottom) {
        String text = "#x" + n.toString(16) + "/" + d.toString(16);
        Subject x = Subject.having(text);
        EDGES.due("bits(false) of " + text, x.bits(false), top);
        EDGES.due("bits(true) of " + text, x.bits(true), bottom);
    }

    private static void bitsOfOthers() {
        EDGES.sentence("-1 if it is not exact.");
        String[] texts = {"", "what", "0.0", "1.5", "-5e-324", "+inf.0", "-inf.0", "+nan.0"};
        for (String text : texts) {
            Subject x = Subject.having("22/7");
            x.retype(text);
            x.read();
            EDGES.due("bits(false) of " + text, x.bits(false), -1);
            EDGES.due("bits(true) of " + text, x.bits(true), -1);
        }
        Subject x = Subject.having("22/7");
        x.inexact();
        EDGES.due("bits(false) after inexact()", x.bits(false), -1);
        EDGES.due("bits(true) after inexact()", x.bits(true), -1);
        x.exact();
        EDGES.due("bits(true) after exact()", x.bits(true), 52);
    }

    private static void callsThatOnlyTell() {
        EDGES.sentence("Nothing is promised beyond the answers and state changes described above");
        for (Map.Entry<String, Consumer<Subject>> state : State.all().entrySet()) {
            Subject x = Subject.after(state.getValue());
            String number = x.number();
            State before = State.after(state.getValue());
            State after = State.after(state.getValue().andThen(Subject::number));
            EDGES.due("state after the calls that tell " + state.getKey(), after.toString(), before.toString());
            EDGES.due("number told twice with " + state.getKey(), x.number(), number);
        }
    }
}
