import java.math.BigInteger;
import java.util.Map;
import java.util.function.Consumer;

/** The sentences about boundaries in promise 14, and in the section Terms on how a number is written. */
public final class WriteEdgesTest {
    private static final Edges EDGES = new Edges("WriteEdgesTest");
    private static final double LEAST = Double.MIN_VALUE;
    private static final double GREATEST = Double.MAX_VALUE;

    public static void main(String[] args) {
        signOfAnInteger();
        strokeOfAFraction();
        digitsOfEachBase();
        longestNumbers();
        namesOfDoubles();
        signOfADouble();
        zero();
        fewestDigits();
        asNearWithEvenUnits();
        nearestOfSeveral();
        evenOfTheNearest();
        belowAPowerOfTwo();
        pointBehindTheFirstDigit();
        pointAt21();
        zerosAndOthers();
        pointAt0();
        pointAtMinus7();
        oneDigitOrMoreBeforeE();
        exponents();
        neighbourAboveTheGreatest();
        lengthOfTheOutput();
        exactInBases2To16();
        doublesInBase10();
        refusesNone();
        refusesOtherBases();
        writeLeavesNumberAndText();
        oneNumberAfterAnother();
        EDGES.end();
    }

    private static void due(String text, int base, String written) {
        Subject x = Subject.having(text);
        EDGES.due("write(" + base + ") of " + text, x.write(base), written.length());
        EDGES.due("output of write(" + base + ") of " + text, x.output(), written);
    }

    /** The double with the sign - is written with a sign before the same. */
    private static void due(double value, String written) {
        String[] told = Check.told(Math.abs(value)).split(" ");
        boolean[] signs = {false, true};
        for (boolean minus : signs) {
            Subject x = new Subject();
            x.make(minus, Long.parseLong(told[2]), Integer.parseInt(told[3]));
            String signed = minus ? "-" + written : written;
            EDGES.due("write(10) of " + signed, x.write(10), signed.length());
            EDGES.due("output of " + signed, x.output(), signed);
            x.back();
            x.read();
            EDGES.due("number read back of " + signed, x.number(), Edges.numberOf(minus ? -value : value));
        }
    }

    private static void signOfAnInteger() {
        EDGES.sentence("an integer, a sign - if negative, and its digits");
        due("-1", 10, "-1");
        due("0", 10, "0");
        due("-0", 10, "0");
        due("+0", 2, "0");
        due("1", 10, "1");
        due("+1", 10, "1");
        due("0010", 10, "10");
        due("-0010", 10, "-10");
    }

    private static void strokeOfAFraction() {
        EDGES.sentence("a fraction, numerator, /, denominator");
        due("1/1", 10, "1");
        due("1/2", 10, "1/2");
        due("2/2", 10, "1");
        due("-1/2", 10, "-1/2");
        due("-4/2", 10, "-2");
        due("0/2", 10, "0");
        due("-0/2", 10, "0");
        due("16/15", 16, "10/f");
        due("-15/16", 2, "-1111/10000");
    }

    private static void digitsOfEachBase() {
        EDGES.sentence("exact ones in a base 2 to 16");
        for (int base = 2; base <= 16; base++) {
            due(Integer.toString(base - 1), base, Integer.toString(base - 1, base));
            due(Integer.toString(base), base, "10");
            due(Integer.toString(base + 1), base, "11");
            due("-" + (base * base - 1) + "/" + base * base, base, "-" + Integer.toString(base * base - 1, base) + "/100");
            // The powers about each length of digits that may be taken off at once.
            for (int power = 1; power <= 40; power++) {
                BigInteger great = BigInteger.valueOf(base).pow(power);
                due(great.toString(), base, "1" + "0".repeat(power));
                due(great.subtract(BigInteger.ONE).toString(), base, Integer.toString(base - 1, base).repeat(power));
                due(great.add(BigInteger.ONE).toString(), base, "1" + "0".repeat(power - 1) + "1");
            }
        }
    }

    private static void longestNumbers() {
        EDGES.sentence("exact ones in a base 2 to 16");
        BigInteger tens = BigInteger.TEN.pow(850);
        BigInteger most = BigInteger.ONE.shiftLeft(4096).divide(tens);
        BigInteger sevens = new BigInteger("7".repeat(380));
        for (int base = 2; base <= 16; base++) {
            due("#e-" + most + "e850", base, "-" + most.multiply(tens).toString(base));
            due("#e-" + sevens + "e-1233", base,
                "-" + sevens.toString(base) + "/" + BigInteger.TEN.pow(1233).toString(base));
        }
    }

    private static void namesOfDoubles() {
        EDGES.sentence("a double: +inf.0, -inf.0, +nan.0");
        due("+inf.0", 10, "+inf.0");
        due("-inf.0", 10, "-inf.0");
        due("1e309", 10, "+inf.0");
        due("-1e309", 10, "-inf.0");
        due("+nan.0", 10, "+nan.0");
        due("-nan.0", 10, "+nan.0");
    }

    private static void signOfADouble() {
        EDGES.sentence("else - if its sign is 1");
        due("-0.0", 10, "-0.0");
        due("0.0", 10, "0.0");
        due("#i-0", 10, "-0.0");
        due("-1e-400", 10, "-0.0");
        due("-5e-324", 10, "-5e-324");
        due("-1e100", 10, "-1e100");
        due("+1e100", 10, "1e100");
        due("-.5", 10, "-0.5");
    }

    private static void zero() {
        EDGES.sentence("(0: one digit 0, p 1)");
        due(0.0, "0.0");
        due("0e9999", 10, "0.0");
        due("1e-400", 10, "0.0");
    }

    private static void fewestDigits() {
        EDGES.sentence("the fewest that lie nearer to it than to any other double");
        due(0.1, "0.1");
        due(Math.nextUp(0.1), "0.10000000000000002");
        due(Math.nextDown(0.1), "0.09999999999999999");
        due(1, "1.0");
        due(Math.nextUp(1.0), "1.0000000000000002");
        due(Math.nextDown(1.0), "0.9999999999999999");
        due(0.3, "0.3");
        due(0.1 + 0.2, "0.30000000000000004");
        due(100, "100.0");
        due(1e22, "1e22");
        due(123456789, "123456789.0");
        due(1.0 / 3, "0.3333333333333333");
        due(2.0 / 3, "0.6666666666666666");
        due(Double.MIN_NORMAL, "2.2250738585072014e-308");
        due(Double.MIN_NORMAL - LEAST, "2.225073858507201e-308");
        due(Math.nextUp(Double.MIN_NORMAL), "2.225073858507202e-308");
        due(0x1p53 + 2, "9007199254740994.0");
        due(0x1.fffffffffffffp53, "18014398509481982.0");
    }

    private static void asNearWithEvenUnits() {
        EDGES.sentence("or as near to it as to another one if its units are even");
        // 10^23 is the middle of two doubles, of which the lower has even units.
        due(1e23, "1e23");
        due(Math.nextUp(1e23), "1.0000000000000001e23");
        // 18014398509481990 is the middle of two doubles, of which the upper has even units.
        due(18014398509481988.0, "18014398509481988.0");
        due(18014398509481992.0, "18014398509481990.0");
        // From 2^54 the doubles are multiples of 4: a multiple of 10 between two of them has a digit less than both.
        for (long middle = 18014398509481990L; middle < 18014398509482990L; middle += 20) {
            long below = middle - 2;
            long above = middle + 2;
            boolean belowIsEven = below / 4 % 2 == 0;
            due((double) below, (belowIsEven ? middle : below) + ".0");
            due((double) above, (belowIsEven ? above : middle) + ".0");
        }
    }

    private static void nearestOfSeveral() {
        EDGES.sentence("of several such the nearest to it");
        // One digit: 3 to 7 would all do for 4.94, and 8 to 12 for 9.88.
        due(LEAST, "5e-324");
        due(2 * LEAST, "1e-323");
        // Two digits: 1.3 to 1.7 would do for 1.48, and 1.8 to 2.2 for 1.98, for which one digit is enough.
        due(3 * LEAST, "1.5e-323");
        due(4 * LEAST, "2e-323");
        due(5 * LEAST, "2.5e-323");
        due(6 * LEAST, "3e-323");
        due(7 * LEAST, "3.5e-323");
        due(20 * LEAST, "1e-322");
        due(9007199254740992.0 * 1024, "9223372036854776000.0");
    }

    private static void evenOfTheNearest() {
        EDGES.sentence("of several such the nearest to it, then the even one");
        due(1302193936702562.25, "1302193936702562.2");
        due(1550990269506877.75, "1550990269506877.8");
        due(3946563426557.78125, "3946563426557.7812");
        due(28699900406371.4375, "28699900406371.438");
        due(0x1p-25, "2.9802322387695312e-8");
    }

    private static void belowAPowerOfTwo() {
        EDGES.sentence("the fewest that lie nearer to it than to any other double");
        // The neighbour below a power of two is half as far as the one above.
        due(0x1p-44, "5.684341886080802e-14");
        due(0x1p89, "6.189700196426902e26");
        due(Math.nextDown(0x1p89), "6.189700196426901e26");
        due(0x1p1023, "8.98846567431158e307");
        due(Math.nextDown(0x1p1023), "8.988465674311579e307");
        due(Math.nextUp(0x1p1023), "8.988465674311582e307");
        // The least normal double has neighbours as far from it on either side.
        due(Double.MIN_NORMAL, "2.2250738585072014e-308");
        due(2 * Double.MIN_NORMAL, "4.450147717014403e-308");
    }

    private static void pointBehindTheFirstDigit() {
        EDGES.sentence("if 0 < p <= 21 the first p digits");
        due(1, "1.0");
        due(1.5, "1.5");
        due(9.5, "9.5");
        due(10, "10.0");
        due(10.5, "10.5");
        due(9.999999999999998, "9.999999999999998");
        due(0.9999999999999999, "0.9999999999999999");
    }

    private static void pointAt21() {
        EDGES.sentence("if 0 < p <= 21 the first p digits (with zeros if there are not so many)");
        due(1e19, "10000000000000000000.0");
        due(1e20, "100000000000000000000.0");
        due(9e20, "900000000000000000000.0");
        due(123456789012345680000.0, "123456789012345680000.0");
        due(Math.nextDown(1e21), "999999999999999900000.0");
        due(1e21, "1e21");
        due(Math.nextUp(1e21), "1.0000000000000001e21");
        due(1234567890123456800000.0, "1.2345678901234568e21");
        due(1e22, "1e22");
    }

    private static void zerosAndOthers() {
        EDGES.sentence("\".\", and the others, 0 if there are none");
        due(1234567890123456.0, "1234567890123456.0");
        due(123456789012345.6, "123456789012345.6");
        due(12345678901234567.0, "12345678901234568.0");
        due(123456789012345678.0, "123456789012345680.0");
        due(1.25, "1.25");
        due(12.5, "12.5");
        due(125, "125.0");
        due(1250, "1250.0");
        due(1000.001, "1000.001");
    }

    private static void pointAt0() {
        EDGES.sentence("if -7 < p <= 0 \"0.\", -p zeros, the digits");
        due(0.1, "0.1");
        due(0.125, "0.125");
        due(0.99, "0.99");
        due(0.01, "0.01");
        due(0.0125, "0.0125");
    }

    private static void pointAtMinus7() {
        EDGES.sentence("if -7 < p <= 0 \"0.\", -p zeros, the digits; else d1, if n > 1 \".\" and the others, \"e\", p - 1.");
        due(1e-6, "0.000001");
        due(1e-7, "0.0000001");
        due(1.25e-7, "0.000000125");
        due(9.5e-7, "0.00000095");
        due(Math.nextUp(1e-7), "0.00000010000000000000001");
        due(Math.nextDown(1e-7), "9.999999999999998e-8");
        due(9.5e-8, "9.5e-8");
        due(1e-8, "1e-8");
        due(1.25e-8, "1.25e-8");
        due(1e-9, "1e-9");
    }

    private static void oneDigitOrMoreBeforeE() {
        EDGES.sentence("else d1, if n > 1 \".\" and the others, \"e\", p - 1.");
        due(1e21, "1e21");
        due(1.5e21, "1.5e21");
        due(1.25e21, "1.25e21");
        due(9e-8, "9e-8");
        due(9.1e-8, "9.1e-8");
        due(1.7976931348623155e308, "1.7976931348623155e308");
    }

    private static void exponents() {
        EDGES.sentence("\"e\", p - 1.");
        due(1e99, "1e99");
        due(1e100, "1e100");
        due(1e101, "1e101");
        due(1e-9, "1e-9");
        due(1e-10, "1e-10");
        due(1e-99, "1e-99");
        due(1e-100, "1e-100");
        due(1e308, "1e308");
        due(1e-308, "1e-308");
        due(1e-323, "1e-323");
        due(9.5e-324, "1e-323");
    }

    private static void neighbourAboveTheGreatest() {
        EDGES.sentence("(2^1024 is the neighbour above the greatest double.)");
        due(GREATEST, "1.7976931348623157e308");
        due(Math.nextDown(GREATEST), "1.7976931348623155e308");
        due("1.7976931348623158e308", 10, "1.7976931348623157e308");
        due("1.7976931348623159e308", 10, "+inf.0");
        due("2e308", 10, "+inf.0");
    }

    private static void lengthOfTheOutput() {
        EDGES.sentence("The output becomes the number as it is written .. : its length");
        String[] texts = {"0", "-1", "-22/7", "0.0", "-0.0", "1e21", "-1.5e-300", "+inf.0", "-inf.0", "-nan.0"};
        long[] lengths = {1, 2, 5, 3, 4, 4, 9, 6, 6, 6};
        for (int i = 0; i < texts.length; i++) {
            Subject x = Subject.having(texts[i]);
            EDGES.due("write(10) of " + texts[i], x.write(10), lengths[i]);
            EDGES.due("write(10) again of " + texts[i], x.write(10), lengths[i]);
            EDGES.due("last character of " + texts[i], x.out((int) lengths[i] - 1) == -1 ? 1 : 0, 0);
            EDGES.due("character behind the last of " + texts[i], x.out((int) lengths[i]), -1);
        }
    }

    private static void exactInBases2To16() {
        EDGES.sentence("exact ones in a base 2 to 16");
        String[] texts = {"0", "-77", "22/7"};
        for (String text : texts) {
            Consumer<Subject> run = x -> {
                x.retype(text);
                x.read();
                x.write(10);
                x.retype("61.25");
            };
            for (int base = -3; base <= 40; base++) {
                int tried = base;
                if (base < 2 || base > 16) {
                    EDGES.refused(text, run, "write(" + base + ")", -1, x -> x.write(tried));
                } else {
                    String[] parts = text.split("/");
                    String stroke = parts.length > 1 ? "/" + Integer.toString(Integer.parseInt(parts[1]), base) : "";
                    due(text, base, Integer.toString(Integer.parseInt(parts[0]), base) + stroke);
                }
            }
        }
    }

    private static void doublesInBase10() {
        EDGES.sentence("doubles in base 10");
        String[] texts = {"1.5", "0.0", "-0.0", "5e-324", "+inf.0", "-inf.0", "+nan.0"};
        for (String text : texts) {
            Consumer<Subject> run = x -> {
                x.retype("77");
                x.read();
                x.write(10);
                x.retype(text);
                x.read();
                x.retype("61.25");
            };
            for (int base = -3; base <= 40; base++) {
                int tried = base;
                if (base != 10) {
                    EDGES.refused(text, run, "write(" + base + ")", -1, x -> x.write(tried));
                }
            }
            due(text, 10, text);
        }
    }

    private static void refusesNone() {
        EDGES.sentence("-1, and nothing is done, if there is none");
        for (int base = -3; base <= 40; base++) {
            int tried = base;
            EDGES.refused("a new object", x -> { }, "write(" + base + ")", -1, x -> x.write(tried));
            EDGES.refused("no number", State.all().get("no number"), "write(" + base + ")", -1, x -> x.write(tried));
        }
    }

    private static void refusesOtherBases() {
        EDGES.sentence("-1, and nothing is done, .. for another base.");
        // 266 and 65546 would be 10 if only their last bits were taken.
        int[] wrong = {1, 0, -1, 17, 18, 36, -10, 266, 65546, Integer.MIN_VALUE, Integer.MIN_VALUE + 10, Integer.MAX_VALUE};
        for (int base : wrong) {
            EDGES.refusedEverywhere("write(" + base + ")", -1, x -> x.write(base));
        }
    }

    private static void writeLeavesNumberAndText() {
        EDGES.sentence("The output becomes the number as it is written");
        for (Map.Entry<String, Consumer<Subject>> state : State.all().entrySet()) {
            State before = State.after(state.getValue());
            Consumer<Subject> run = state.getValue().andThen(x -> x.write(10));
            State after = State.after(run);
            EDGES.due("number after write(10) of " + state.getKey(), after.number(), before.number());
            EDGES.due("text after write(10) of " + state.getKey(), after.text(), before.text());
        }
    }

    /** What one number leaves behind is not seen in the next one, in any order of two. */
    private static void oneNumberAfterAnother() {
        EDGES.sentence("The output becomes the number as it is written");
        String[] numbers = {"0", "-340282366920938463463374607431768211457", "-22/7", "0.0", "-0.0", "1.0", "100.0", "1.7976931348623157e308",
            "1e100", "5e-324", "-0.00012345678901234567", "123456789012345680000.0", "+inf.0", "-inf.0", "+nan.0"};
        for (String first : numbers) {
            for (String second : numbers) {
                Subject x = Subject.having(first);
                x.write(10);
                x.retype(second);
                x.read();
                EDGES.due("write(10) of " + second + " after " + first, x.write(10), second.length());
                EDGES.due("output of " + second + " after " + first, x.output(), second);
            }
        }
    }
}
