/** Promises 5 to 13: make, divide, exact, inexact, kind, negative, units, place and bits. */
public final class DoublesTest {
    private static final Check CHECK = new Check("DoublesTest");
    private static final long TOP = 1L << 53;

    public static void main(String[] args) {
        make();
        makeRefuses();
        divide();
        exact();
        inexact();
        kindAndSign();
        unitsAndPlace();
        bits();
        CHECK.end();
    }

    private static void made(boolean negative, long units, int place, double value) {
        Subject x = new Subject();
        String call = "make(" + negative + ", " + units + ", " + place + ")";
        CHECK.due(call, x.make(negative, units, place), true);
        CHECK.due("number of " + call, Check.told(x), Check.told(value));
    }

    private static void make() {
        made(false, 0, 0, 0.0);
        made(true, 0, 0, -0.0);
        made(true, 0, 2000, -0.0);
        made(false, 1, 0, 1);
        made(true, 3, -1, -1.5);
        made(false, 1, -1074, Double.MIN_VALUE);
        made(false, 1, -1075, 0.0);
        made(true, 1, -1075, -0.0);
        made(false, 3, -1076, Double.MIN_VALUE);
        made(false, 2, -1076, 0.0);
        made(false, 3, -1075, 2 * Double.MIN_VALUE);
        made(false, 5, -1075, 2 * Double.MIN_VALUE);
        made(false, Long.MAX_VALUE, -1137, Double.MIN_VALUE);
        made(false, Long.MAX_VALUE, -1138, 0.0);
        made(false, Long.MAX_VALUE, -1139, 0.0);
        made(false, (1L << 62) + 1, -1137, Double.MIN_VALUE);
        made(false, 1L << 62, -1137, 0.0);
        made(true, Long.MAX_VALUE, -2000, -0.0);
        made(false, TOP - 1, -1075, Double.MIN_NORMAL);
        made(false, TOP - 3, -1075, Double.MIN_NORMAL - 2 * Double.MIN_VALUE);
        made(false, TOP - 1, 971, Double.MAX_VALUE);
        made(true, TOP - 1, 971, -Double.MAX_VALUE);
        made(false, TOP, 971, Double.POSITIVE_INFINITY);
        made(true, 1, 1024, Double.NEGATIVE_INFINITY);
        made(false, 1, 1023, 0x1p1023);
        made(false, 2 * TOP - 1, 970, Double.POSITIVE_INFINITY);
        made(false, 4 * TOP - 3, 969, Double.MAX_VALUE);
        made(false, TOP + 1, 0, TOP);
        made(false, TOP + 3, 0, TOP + 4);
        made(false, Long.MAX_VALUE, 0, 0x1p63);
        made(false, Long.MAX_VALUE - 511, 0, 0x1p63);
        made(false, Long.MAX_VALUE - 512, 0, 0x1p63 - 1024);
        made(false, 1, 2000, Double.POSITIVE_INFINITY);
    }

    private static void makeRefuses() {
        Subject x = Subject.having("-1.5");
        String before = Check.told(x);
        CHECK.due("make(false, -1, 0)", x.make(false, -1, 0), false);
        CHECK.due("make(true, least, 0)", x.make(true, Long.MIN_VALUE, 0), false);
        CHECK.due("make(false, 1, -2001)", x.make(false, 1, -2001), false);
        CHECK.due("make(false, 1, 2001)", x.make(false, 1, 2001), false);
        CHECK.due("make(false, 0, least)", x.make(false, 0, Integer.MIN_VALUE), false);
        CHECK.due("make(false, 0, greatest)", x.make(false, 0, Integer.MAX_VALUE), false);
        CHECK.due("number after make refused", Check.told(x), before);
    }

    private static void divided(long n, long d, double value) {
        Subject x = new Subject();
        CHECK.due("divide(" + n + ", " + d + ")", x.divide(n, d), true);
        CHECK.due("number of divide(" + n + ", " + d + ")", Check.told(x), Check.told(value));
    }

    private static void divide() {
        divided(0, 5, 0.0);
        divided(0, Long.MAX_VALUE, 0.0);
        divided(1, 3, 1.0 / 3);
        divided(-1, 3, -1.0 / 3);
        divided(6, 3, 2);
        divided(-22, 7, -22.0 / 7);
        divided(TOP + 1, 1, TOP);
        divided(TOP + 3, 1, TOP + 4);
        divided(Long.MAX_VALUE, 1, 0x1p63);
        divided(Long.MIN_VALUE, 1, -0x1p63);
        divided(Long.MIN_VALUE, Long.MAX_VALUE, -1);
        divided(1, Long.MAX_VALUE, 0x1p-63);
        divided(Long.MAX_VALUE, Long.MAX_VALUE, 1);
        divided(2 * TOP + 3, 2, TOP + 2);
        divided(2 * TOP + 2, 2, TOP);
        Subject x = Subject.having("7/3");
        CHECK.due("divide(1, 0)", x.divide(1, 0), false);
        CHECK.due("divide(0, 0)", x.divide(0, 0), false);
        CHECK.due("divide(1, -1)", x.divide(1, -1), false);
        CHECK.due("divide(1, least)", x.divide(1, Long.MIN_VALUE), false);
        CHECK.due("number after divide refused", x.written(10), "7/3");
    }

    private static void exactOf(String text, String written) {
        Subject x = Subject.having(text);
        CHECK.due("exact() of " + text, x.exact(), true);
        CHECK.due("kind() after it", x.kind(), 1);
        CHECK.due("write(10) after it", x.written(10), written);
        CHECK.due("exact() of an exact one", x.exact(), false);
        CHECK.due("write(10) after that", x.written(10), written);
    }

    private static void exact() {
        exactOf("0.0", "0");
        exactOf("-0.0", "0");
        exactOf("1.5", "3/2");
        exactOf("-1.5", "-3/2");
        exactOf("1024.0", "1024");
        exactOf("0.1", "3602879701896397/36028797018963968");
        exactOf("1e23", "99999999999999991611392");
        exactOf("-0.0009765625", "-1/1024");
        exactOf("4.9e-324", "1/" + java.math.BigInteger.TWO.pow(1074));
        exactOf("1.7976931348623157e308", new java.math.BigDecimal(Double.MAX_VALUE).toString());
        CHECK.due("negative() of exact -0.0", sign("-0.0"), false);
        CHECK.due("negative() of exact -1.5", sign("-1.5"), true);
        String[] wrong = {"+inf.0", "-inf.0", "+nan.0", "1/2", "0", "none"};
        for (String text : wrong) {
            Subject x = Subject.having(text);
            String before = Check.told(x) + x.written(10);
            CHECK.due("exact() of " + text, x.exact(), false);
            CHECK.due("number after exact() of " + text, Check.told(x) + x.written(10), before);
        }
    }

    private static boolean sign(String text) {
        Subject x = Subject.having(text);
        x.exact();
        return x.negative() == 1;
    }

    private static void inexactOf(String text, double value) {
        Subject x = Subject.having(text);
        CHECK.due("inexact() of " + text, x.inexact(), true);
        CHECK.due("number after it", Check.told(x), Check.told(value));
        CHECK.due("inexact() of a double", x.inexact(), false);
        CHECK.due("number after that", Check.told(x), Check.told(value));
    }

    private static void inexact() {
        inexactOf("0", 0.0);
        inexactOf("-0", 0.0);
        inexactOf("-1/3", -1.0 / 3);
        inexactOf("#e1e23", 1e23);
        inexactOf("9007199254740993", 9007199254740992.0);
        inexactOf("#e1e309", Double.POSITIVE_INFINITY);
        inexactOf("#e-1e1233", Double.NEGATIVE_INFINITY);
        inexactOf("#e1e-1233", 0.0);
        inexactOf("#e-1e-1233", -0.0);
        inexactOf("#e1e-320", 1e-320);
        inexactOf("#e123456789e-330", 1.23456789e-322);
        inexactOf("#e1797693134862315807e290", Double.MAX_VALUE);
        inexactOf("#e1797693134862315808e290", Double.POSITIVE_INFINITY);
        String[] wrong = {"1.5", "-0.0", "+inf.0", "-inf.0", "+nan.0", "none"};
        for (String text : wrong) {
            Subject x = Subject.having(text);
            String before = Check.told(x);
            CHECK.due("inexact() of " + text, x.inexact(), false);
            CHECK.due("number after inexact() of " + text, Check.told(x), before);
        }
    }

    private static void kindAndSign() {
        String[] texts = {"none", "0", "-0", "-5", "-1/2", "5/2", "0.0", "-0.0", "1.5", "-1.5", "+inf.0", "-inf.0", "+nan.0",
            "-nan.0", "-1e-999", "1e999"};
        int[] kinds = {0, 1, 1, 1, 1, 1, 2, 2, 2, 2, 3, 3, 4, 4, 2, 3};
        boolean[] signs = {false, false, false, true, true, false, false, true, false, true, false, true, false, false, true,
            false};
        for (int i = 0; i < texts.length; i++) {
            Subject x = Subject.having(texts[i]);
            CHECK.due("kind() of " + texts[i], x.kind(), kinds[i]);
            CHECK.due("negative() of " + texts[i], x.negative(), signs[i]);
        }
        Subject x = Subject.having("-1.5");
        x.retype("none");
        x.read();
        CHECK.due("negative() of none after a negative one", x.negative(), false);
    }

    private static void unitsAndPlace() {
        double[] values = {0.0, -0.0, 1, -1, 0.1, Double.MIN_VALUE, Double.MIN_NORMAL, Double.MIN_NORMAL / 2, Double.MAX_VALUE,
            0x1.fffffffffffffp0, 1e21, 123456};
        for (double value : values) {
            Subject x = Subject.having(Model.writtenDouble(value));
            CHECK.due("number of " + value, Check.told(x), Check.told(value));
        }
        Subject x = Subject.having("0.0");
        CHECK.due("units() of 0.0", x.units(), 0);
        CHECK.due("place() of 0.0", x.place(), -1074);
        String[] wrong = {"none", "1", "1/2", "+inf.0", "-inf.0", "+nan.0"};
        for (String text : wrong) {
            Subject y = Subject.having("1.5");
            y.retype(text);
            y.read();
            CHECK.due("units() of " + text, y.units(), -1);
            CHECK.due("place() of " + text, y.place(), 0);
        }
    }

    private static void bits() {
        String[] texts = {"0", "1", "-1", "255", "-256", "255/256", "-1/3", "4294967295", "4294967296", "#e1e1233", "#e1e-1233"};
        int[] tops = {0, 1, 1, 8, 9, 8, 1, 32, 33, 4096, 1};
        int[] bottoms = {1, 1, 1, 1, 1, 9, 2, 1, 1, 1, 4096};
        for (int i = 0; i < texts.length; i++) {
            Subject x = Subject.having(texts[i]);
            CHECK.due("bits(false) of " + texts[i], x.bits(false), tops[i]);
            CHECK.due("bits(true) of " + texts[i], x.bits(true), bottoms[i]);
        }
        String[] wrong = {"none", "1.5", "0.0", "+inf.0", "+nan.0"};
        for (String text : wrong) {
            Subject x = Subject.having("5/3");
            x.retype(text);
            x.read();
            CHECK.due("bits(false) of " + text, x.bits(false), -1);
            CHECK.due("bits(true) of " + text, x.bits(true), -1);
        }
    }
}
