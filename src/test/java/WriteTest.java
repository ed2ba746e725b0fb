import java.math.BigInteger;

/** Promise 14: write, with the shortest digits of a double as the section Terms has them. */
public final class WriteTest {
    private static final Check CHECK = new Check("WriteTest");

    public static void main(String[] args) {
        exactNumbers();
        layout();
        shortestDigits();
        names();
        refusals();
        powersOfTwo();
        powersOfTen();
        leastDoubles();
        manyDoubles();
        CHECK.end();
    }

    private static void due(String text, int base, String written) {
        Subject x = Subject.having(text);
        CHECK.due("length of " + text + " in base " + base, x.write(base), written.length());
        CHECK.due("write(" + base + ") of " + text, x.output(), written);
    }

    private static void exactNumbers() {
        due("0", 2, "0");
        due("0", 16, "0");
        due("255", 2, "11111111");
        due("255", 16, "ff");
        due("-255/256", 16, "-ff/100");
        due("#xFEDCBA9876543210", 16, "fedcba9876543210");
        due("14", 15, "e");
        due("15", 15, "10");
        due("1000000000", 10, "1000000000");
        due("-1000000000000000000000", 10, "-1000000000000000000000");
        due("1/100000000000000000000", 10, "1/100000000000000000000");
        BigInteger great = BigInteger.TEN.pow(1233);
        BigInteger odd = new BigInteger("7".repeat(190));
        for (int base = 2; base <= 16; base++) {
            due("#e-1e1233", base, "-" + great.toString(base));
            due("#e1e-1233", base, "1/" + great.toString(base));
            due("-" + odd + "/2", base, "-" + odd.toString(base) + "/" + BigInteger.TWO.toString(base));
            due("#e" + base + "e3", base, new BigInteger(base + "000").toString(base));
        }
    }

    private static void layout() {
        String[] texts = {"0.0", "-0.0", "1.0", "-1.5", "10.0", "100.5", "1e20", "1e21", "1e22", "123456789012345680000.0",
            "1.5e21", "-1e21", "999999999999999900000.0", "1e-1", "1e-6", "1e-7", "1e-8", "1.25e-7", "1.25e-8", "-2.5e-10",
            "123e-9", "0.000123", "1e100", "-1.5e-300", "12345.678"};
        String[] due = {"0.0", "-0.0", "1.0", "-1.5", "10.0", "100.5", "100000000000000000000.0", "1e21", "1e22",
            "123456789012345680000.0", "1.5e21", "-1e21", "999999999999999900000.0", "0.1", "0.000001", "0.0000001", "1e-8",
            "0.000000125", "1.25e-8", "-2.5e-10", "0.000000123", "0.000123", "1e100", "-1.5e-300", "12345.678"};
        for (int i = 0; i < texts.length; i++) {
            due(texts[i], 10, due[i]);
        }
    }

    private static void shortestDigits() {
        due("0.1", 10, "0.1");
        due("#i1/3", 10, "0.3333333333333333");
        due("#i2/3", 10, "0.6666666666666666");
        due("0.30000000000000004", 10, "0.30000000000000004");
        due("2e-44", 10, "2e-44");
        due("2.0000000000000000e-3", 10, "0.002");
        due("1e23", 10, "1e23");
        // 10^23 is as near to this double as to the next one, and belongs to it because its units are even.
        due("9.999999999999999e22", 10, "1e23");
        due("1.0000000000000001e23", 10, "1.0000000000000001e23");
        // 18014398509481990 is as near to the one as to the other, and belongs to the second: its units are even.
        due("18014398509481988.0", 10, "18014398509481988.0");
        due("18014398509481992.0", 10, "18014398509481990.0");
        due("2.2250738585072014e-308", 10, "2.2250738585072014e-308");
        due("2.225073858507201e-308", 10, "2.225073858507201e-308");
        due("1.7976931348623157e308", 10, "1.7976931348623157e308");
        due("5e-324", 10, "5e-324");
        due("4.9e-324", 10, "5e-324");
        due("9.9e-324", 10, "1e-323");
        due("1.5e-323", 10, "1.5e-323");
        due("9007199254740992.0", 10, "9007199254740992.0");
        due("9007199254740993.0", 10, "9007199254740992.0");
        due("18014398509481984.0", 10, "18014398509481984.0");
        due("5764607523034235000.0", 10, "5764607523034235000.0");
        due("9223372036854775808.0", 10, "9223372036854776000.0");
        due("2.98023223876953125e-8", 10, "2.9802322387695312e-8");
    }

    private static void names() {
        due("+inf.0", 10, "+inf.0");
        due("-inf.0", 10, "-inf.0");
        due("+nan.0", 10, "+nan.0");
        due("-nan.0", 10, "+nan.0");
        due("1e999", 10, "+inf.0");
    }

    private static void refusals() {
        int[] wrong = {-1, 0, 1, 17, 36, -10, Integer.MIN_VALUE, Integer.MAX_VALUE};
        String[] texts = {"255", "-1/3", "1.5", "+inf.0", "-nan.0", "none"};
        for (String text : texts) {
            Subject x = Subject.having("77");
            x.write(10);
            x.retype(text);
            x.read();
            String before = Check.told(x);
            for (int base : wrong) {
                CHECK.due("write(" + base + ") of " + text, x.write(base), -1);
            }
            for (int base = 2; base <= 16; base++) {
                if (x.kind() == 0 || x.kind() > 1 && base != 10) {
                    CHECK.due("write(" + base + ") of " + text, x.write(base), -1);
                }
            }
            CHECK.due("output after write refused", x.output(), "77");
            CHECK.due("number after write refused", Check.told(x), before);
        }
    }

    private static void same(double value) {
        if (Math.abs(value) > Double.MAX_VALUE) {
            return;
        }
        Subject x = new Subject();
        String[] told = Check.told(value).split(" ");
        x.make(told[1].equals("true"), Long.parseLong(told[2]), Integer.parseInt(told[3]));
        CHECK.due("write(10) of " + value, x.written(10), Model.writtenDouble(value));
        CHECK.due("number after write of " + value, Check.told(x), Check.told(value));
        x.back();
        x.read();
        CHECK.due("number read back of " + value, Check.told(x), Check.told(value));
    }

    /** Every power of two, where the neighbour below is nearer than the one above, and its neighbours. */
    private static void powersOfTwo() {
        for (int e = -1074; e <= 1023; e++) {
            double value = Math.scalb(1.0, e);
            same(value);
            same(Math.nextUp(value));
            same(-Math.nextDown(value));
        }
    }

    private static void powersOfTen() {
        for (int e = -323; e <= 308; e++) {
            double value = Double.parseDouble("1e" + e);
            same(value);
            same(-Math.nextUp(value));
            same(Math.nextDown(value));
            same(Double.parseDouble("5e" + e));
            same(Double.parseDouble("9e" + e));
        }
    }

    private static void leastDoubles() {
        for (int i = 1; i <= 2000; i++) {
            same(i * Double.MIN_VALUE);
        }
        same(Double.MAX_VALUE);
    }

    private static void manyDoubles() {
        long bits = 1;
        for (int i = 0; i < 20000; i++) {
            bits = bits * 6364136223846793005L + 1442695040888963407L;
            double value = Double.longBitsToDouble(bits ^ bits >>> 32);
            if (value == value) {
                same(value);
            }
            same((bits >>> 40) / 1000.0);
            same((bits >>> 12) * 1e3);
        }
    }
}
