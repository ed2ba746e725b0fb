import java.math.BigInteger;

/** Promise 4: read, with the text of a number as the section Terms has it. */
public final class ReadTest {
    private static final Check CHECK = new Check("ReadTest");

    public static void main(String[] args) {
        exactTexts();
        prefixes();
        doubleTexts();
        names();
        noNumbers();
        nearestDoubles();
        exactDecimals();
        greatestExact();
        longTexts();
        everyCharacter();
        CHECK.end();
    }

    private static void exact(String text, String written) {
        Subject x = Subject.typed(text);
        CHECK.due("read() of " + text, x.read(), 1);
        CHECK.due("kind() of " + text, x.kind(), 1);
        CHECK.due("write(10) of " + text, x.written(10), written);
        CHECK.due("negative() of " + text, x.negative(), written.startsWith("-"));
    }

    private static void inexact(String text, double value) {
        Subject x = Subject.typed(text);
        CHECK.due("read() of " + text, x.read(), 2);
        CHECK.due("number of " + text, Check.told(x), Check.told(value));
    }

    private static void none(String text) {
        Subject x = Subject.having("-1.5");
        x.retype(text);
        CHECK.due("read() of " + text, x.read(), 0);
        CHECK.due("number of " + text, Check.told(x), "0 false -1 0");
    }

    private static void exactTexts() {
        exact("0", "0");
        exact("-0", "0");
        exact("007", "7");
        exact("+12", "12");
        exact("-12", "-12");
        exact("4294967296", "4294967296");
        exact("-18446744073709551616", "-18446744073709551616");
        exact("6/4", "3/2");
        exact("-6/4", "-3/2");
        exact("4/2", "2");
        exact("0/5", "0");
        exact("-0/5", "0");
        exact("+10/05", "2");
        exact("1024/4096", "1/4");
        exact("18446744073709551616/4294967296", "4294967296");
        exact("4294967295/18446744073709551615", "1/4294967297");
        exact("123456789012345678901234567890/987654321098765432109876543210", "13717421/109739369");
    }

    private static void prefixes() {
        exact("#xfF", "255");
        exact("#x1e2", "482");
        exact("#xABCDEFabcdef", "188900977659375");
        exact("#b-101/10", "-5/2");
        exact("#o17", "15");
        exact("#d19", "19");
        exact("#e#x10", "16");
        exact("#x#e10", "16");
        exact("#e1/2", "1/2");
        exact("#d#e.5", "1/2");
        inexact("#i#x10", 16);
        inexact("#x#i-A/8", -1.25);
        inexact("#i1/3", 1.0 / 3);
        inexact("#i-0", -0.0);
        inexact("#i0", 0.0);
        inexact("#i-0/7", -0.0);
        inexact("#i1.5", 1.5);
        inexact("#d#i1e3", 1000);
    }

    private static void doubleTexts() {
        inexact("1.5", 1.5);
        inexact("5.", 5);
        inexact(".5", 0.5);
        inexact("-.5e1", -5);
        inexact("5.e1", 50);
        inexact("1e0", 1);
        inexact("1E3", 1000);
        inexact("1e+3", 1000);
        inexact("1e-3", 0.001);
        inexact("1e0003", 1000);
        inexact("-0.0", -0.0);
        inexact("-0e9999", -0.0);
        inexact("0e9999", 0.0);
        inexact("0.e-9999", 0.0);
        inexact("1e9999", Double.POSITIVE_INFINITY);
        inexact("-1e9999", Double.NEGATIVE_INFINITY);
        inexact("1e-9999", 0.0);
        inexact("-1e-9999", -0.0);
    }

    private static void names() {
        inexact("+inf.0", Double.POSITIVE_INFINITY);
        inexact("-inf.0", Double.NEGATIVE_INFINITY);
        inexact("+nan.0", Double.NaN);
        inexact("-nan.0", Double.NaN);
        inexact("#i-inf.0", Double.NEGATIVE_INFINITY);
        inexact("#d+nan.0", Double.NaN);
        inexact("#x+inf.0", Double.POSITIVE_INFINITY);
        String[] wrong = {"inf.0", "nan.0", "+inf", "+inf.", "+inf.00", "+INF.0", "+Inf.0", "+nan", "-NaN.0", "#e+inf.0",
            "#e-nan.0", "#x#e+nan.0", "+inf.0e1", "++inf.0", "+infx0", "#iinf.0", "1inf.0"};
        for (String text : wrong) {
            none(text);
        }
    }

    private static void noNumbers() {
        String[] wrong = {"", "+", "-", ".", "+.", "e", "e5", ".e5", "-e5", "/", "1/", "/1", "1/0", "0/0", "1/00", "#i1/0",
            "1//2", "1/2/3", "1/-2", "1/+2", "+-1", "--1", "1+", "1-", "1 ", " 1", "1 2", "1..2", "1.2.3", ".1.", "1e", "1e+",
            "1e-", "1e12345", "1e00000", "1e1.5", "1e1e1", "1e++1", "1.5/2", "1/2.5", "1/2e3", "1e3/2", "12a", "a", "#", "#x",
            "#e", "#x#e", "#x+", "#q1", "#X1", "#E1", "#I1", "#B1", "#x#x1", "#x#b1", "#e#e1", "#e#i1", "#i#e1", "#x#e#d1",
            "#e#x#e1", "#e#x#", "1#e", "+#e1", "#xg", "#x1.5", "#x.5", "#b2", "#b1e1", "#b1.1", "#o8", "#o1e1", "#o7/8",
            "#b1/2", "#d1a", "#x1/0", "#x1e+2", "1_000", "1,5", "0x10", "1d", "1f", "\0", "1\0", "\u007f1", "#\0", "##x1"};
        for (String text : wrong) {
            none(text);
        }
    }

    private static void nearestDoubles() {
        inexact("9007199254740993.0", 9007199254740992.0);
        inexact("9007199254740993.00000000000000000000000000000001", 9007199254740994.0);
        inexact("9007199254740995.0", 9007199254740996.0);
        inexact("#i9007199254740993", 9007199254740992.0);
        inexact("#i18014398509481987/2", 9007199254740994.0);
        inexact("#i18014398509481986/2", 9007199254740992.0);
        inexact("1.7976931348623157e308", Double.MAX_VALUE);
        inexact("1.797693134862315807e308", Double.MAX_VALUE);
        inexact("1.797693134862315808e308", Double.POSITIVE_INFINITY);
        inexact("2.2250738585072011e-308", 2.225073858507201e-308);
        inexact("2.2250738585072012e-308", Double.MIN_NORMAL);
        inexact("4.9e-324", Double.MIN_VALUE);
        inexact("2.4703282292062328e-324", Double.MIN_VALUE);
        inexact("2.4703282292062327e-324", 0.0);
        inexact("-2.4703282292062327e-324", -0.0);
        inexact("7.4109846876186981e-324", Double.MIN_VALUE);
        inexact("7.4109846876186983e-324", 2 * Double.MIN_VALUE);
        inexact("#i1" + "0".repeat(390), Double.POSITIVE_INFINITY);
        inexact("#i-1/1" + "0".repeat(390), -0.0);
        // 2^1024 - 2^970 lies in the middle of the greatest double and 2^1024.
        BigInteger middle = BigInteger.ONE.shiftLeft(1024).subtract(BigInteger.ONE.shiftLeft(970));
        inexact("#i" + middle, Double.POSITIVE_INFINITY);
        inexact("#i-" + middle, Double.NEGATIVE_INFINITY);
        inexact(middle + ".0", Double.POSITIVE_INFINITY);
        inexact("#i" + middle.subtract(BigInteger.ONE), Double.MAX_VALUE);
        inexact(middle.subtract(BigInteger.ONE) + "." + "9".repeat(80), Double.MAX_VALUE);
    }

    private static void exactDecimals() {
        exact("#e1.5", "3/2");
        exact("#e-1.5e2", "-150");
        exact("#e.125", "1/8");
        exact("#e0.0", "0");
        exact("#e-0.0", "0");
        exact("#e0e9999", "0");
        exact("#e0e-9999", "0");
        exact("#e1e3", "1000");
        exact("#e1E-3", "1/1000");
        exact("#e25e-2", "1/4");
        exact("#e16e-2", "4/25");
        exact("#e100e-2", "1");
        exact("#e0.1", "1/10");
    }

    private static void greatestExact() {
        exact("#e1e1233", "1" + "0".repeat(1233));
        exact("#e-1e-1233", "-1/1" + "0".repeat(1233));
        exact("#e10e-1234", "1/1" + "0".repeat(1233));
        exact("#e1" + "0".repeat(300) + "e-1533", "1/1" + "0".repeat(1233));
        exact("#e0." + "0".repeat(300) + "1e1534", "1" + "0".repeat(1233));
        CHECK.due("bits of 10^1233", Subject.having("#e1e1233").bits(false), 4096);
        CHECK.due("bits of 10^-1233", Subject.having("#e1e-1233").bits(true), 4096);
        String[] tooGreat = {"#e1e1234", "#e-1e1234", "#e1e-1234", "#e2e1233", "#e11e1232", "#e3e-1234", "#e1e9999",
            "#e1e-9999", "#e" + "9".repeat(390) + "e-9999", "#e." + "9".repeat(390) + "e9999", "#e1" + "0".repeat(300) + "e-1534"};
        for (String text : tooGreat) {
            none(text);
        }
        exact("#e1.0443e1233", "10443" + "0".repeat(1229));
        none("#e1.0444e1233");
        // 2^1300 and 5^560 take many twos and fives from the denominator.
        String twos = BigInteger.TWO.pow(1300).toString();
        CHECK.due("bits of 2^1300 / 10^1624", Subject.having("#e" + twos + "e-1624").bits(true), 4095);
        none("#e" + twos + "e-1625");
        String fives = BigInteger.valueOf(5).pow(560).toString();
        CHECK.due("bits of 5^560 / 10^1624", Subject.having("#e" + fives + "e-1624").bits(true), 4095);
        none("#e" + fives + "e-1625");
    }

    private static void longTexts() {
        exact("1".repeat(199) + "/" + "1".repeat(200), "1".repeat(199) + "/" + "1".repeat(200));
        exact("2".repeat(199) + "/" + "4".repeat(199), "1/2");
        // 2^796 - 1 and 2^792 - 1 have 15 in common, and nothing more.
        BigInteger n = BigInteger.ONE.shiftLeft(796).subtract(BigInteger.ONE).divide(BigInteger.valueOf(15));
        BigInteger d = BigInteger.ONE.shiftLeft(792).subtract(BigInteger.ONE).divide(BigInteger.valueOf(15));
        exact("#x" + "f".repeat(199) + "/" + "f".repeat(198), n + "/" + d);
        inexact("0." + "0".repeat(390) + "1e391", 1);
        inexact("1" + "0".repeat(390) + "e-390", 1);
        inexact("1" + "0".repeat(390) + "e-0690", 1e-300);
        inexact("." + "3".repeat(399), 0.33333333333333331);
        inexact("#i" + "3".repeat(198) + "/" + "1".repeat(198), 3);
        Subject x = Subject.typed("#x" + "F".repeat(398));
        CHECK.due("read() of 398 hex digits", x.read(), 1);
        CHECK.due("their bits", x.bits(false), 1592);
    }

    /** Each character alone, behind a sign, behind a digit, behind a prefix and behind e. */
    private static void everyCharacter() {
        for (char c = 0; c < 128; c++) {
            boolean digit = c >= '0' && c <= '9';
            boolean hex = digit || c >= 'a' && c <= 'f' || c >= 'A' && c <= 'F';
            due("" + c, digit ? 1 : 0);
            due("+" + c, digit ? 1 : 0);
            due("1" + c, digit ? 1 : c == '.' ? 2 : 0);
            due("#x" + c, hex ? 1 : 0);
            due("1e" + c, digit ? 2 : 0);
            due("1/1" + c, digit ? 1 : 0);
            due("#" + c + "1", "xbode".indexOf(c) >= 0 ? 1 : c == 'i' ? 2 : 0);
            due("1" + c + "1", digit || c == '/' ? 1 : c == '.' || c == 'e' || c == 'E' ? 2 : 0);
        }
    }

    private static void due(String text, int answer) {
        CHECK.due("read() of " + text, Subject.typed(text).read(), answer);
    }
}
