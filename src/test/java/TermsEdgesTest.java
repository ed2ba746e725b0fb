import java.math.BigInteger;
import java.util.function.Consumer;

/** The sentences about boundaries in the section Terms that tell which texts are numbers, and in "What it is". */
public final class TermsEdgesTest {
    private static final Edges EDGES = new Edges("TermsEdgesTest");

    public static void main(String[] args) {
        the512thCall();
        textOf400();
        lowestTerms();
        lowestTermsOfLongFractions();
        digitsOfTheBase();
        prefixesEachOnce();
        oneSignOrNone();
        atLeastOneDigit();
        denominatorNotZero();
        onePointOrNone();
        pointAndExponentInBaseTen();
        oneToFourDigitsBehindE();
        signBehindE();
        pointOrEMakesADouble();
        namesWithASign();
        namesNotWithE();
        inexactRatios();
        greatAndSmallLetters();
        numeratorOf4096Bits();
        denominatorOf4096Bits();
        farBeyond4096Bits();
        zerosOfAnyExponent();
        oneTextAfterAnother();
        EDGES.end();
    }

    private static Consumer<Subject> calls(int count) {
        return x -> {
            for (int i = x.calls(); i < count; i++) {
                x.kind();
            }
        };
    }

    private static void the512thCall() {
        EDGES.sentence("An object is used for at most 512 calls after it has been made");
        Consumer<Subject> reading = x -> {
            x.retype("-1.5");
            x.read();
            x.write(10);
            x.retype("22/7");
        };
        Consumer<Subject> run = reading.andThen(calls(511));
        EDGES.due("type as call 512", Subject.after(run).type('1'), 5);
        EDGES.due("read() as call 512", Subject.after(run).read(), 1);
        EDGES.due("make as call 512", Subject.after(run).make(false, 1, 0), 1);
        EDGES.due("divide as call 512", Subject.after(run).divide(1, 3), 1);
        EDGES.due("exact() as call 512", Subject.after(run).exact(), 1);
        EDGES.due("inexact() as call 512", Subject.after(run).inexact(), 0);
        EDGES.due("kind() as call 512", Subject.after(run).kind(), 2);
        EDGES.due("negative() as call 512", Subject.after(run).negative(), 1);
        EDGES.due("units() as call 512", Subject.after(run).units(), 3L << 51);
        EDGES.due("place() as call 512", Subject.after(run).place(), -52);
        EDGES.due("bits(false) as call 512", Subject.after(run).bits(false), -1);
        EDGES.due("write(10) as call 512", Subject.after(run).write(10), 4);
        EDGES.due("out(3) as call 512", Subject.after(run).out(3), '5');
        EDGES.due("back() as call 512", Subject.after(run).back(), 1);
        dearCallsTo512();
    }

    /** What takes the longest way, again and again until the last call. */
    private static void dearCallsTo512() {
        String text = "#x" + "f".repeat(199) + "/" + "f".repeat(198);
        Subject reads = new Subject();
        reads.typeAll(text);
        while (reads.calls() < Subject.MOST_CALLS) {
            EDGES.due("read() as call " + reads.calls(), reads.read(), 1);
        }
        Subject writes = Subject.having("#e-1e-1233");
        while (writes.calls() < Subject.MOST_CALLS) {
            EDGES.due("write(2) as call " + writes.calls(), writes.write(2), 4096 + 3);
        }
        Subject both = new Subject();
        while (both.calls() + 9 <= Subject.MOST_CALLS) {
            EDGES.due("make as call " + both.calls(), both.make(false, 1, -1074), 1);
            EDGES.due("exact() as call " + both.calls(), both.exact(), 1);
            EDGES.due("inexact() as call " + both.calls(), both.inexact(), 1);
        }
        EDGES.due("number after them", both.number(), Edges.numberOf(Double.MIN_VALUE));
    }

    private static void textOf400() {
        EDGES.sentence("There is a TEXT of at most 400 characters");
        BigInteger sevens = new BigInteger("7".repeat(400));
        Subject x = Subject.having("7".repeat(400));
        EDGES.due("bits of 400 digits", x.bits(false), sevens.bitLength());
        x.type('7');
        x.read();
        EDGES.due("bits after one digit more", x.bits(false), sevens.bitLength());
        EDGES.due("bits of 398 hex digits", Subject.having("#x" + "F".repeat(398)).bits(false), 4 * 398);
        EDGES.inexact("." + "9".repeat(399), 1);
        EDGES.inexact("." + "0".repeat(322) + "5" + "0".repeat(76), 5e-323);
        EDGES.inexact("1" + "0".repeat(308) + "." + "0".repeat(90), 1e308);
    }

    private static void lowestTerms() {
        EDGES.sentence("an integer, or a fraction in lowest terms with a denominator of 2 or more");
        EDGES.exact("1/1", "1");
        EDGES.exact("1/2", "1/2");
        EDGES.exact("2/2", "1");
        EDGES.exact("3/2", "3/2");
        EDGES.exact("4/2", "2");
        EDGES.exact("2/4", "1/2");
        EDGES.exact("0/1", "0");
        EDGES.exact("0/2", "0");
        EDGES.exact("-0/2", "0");
        EDGES.exact("-6/3", "-2");
        EDGES.exact("-6/4", "-3/2");
        EDGES.exact("4294967295/4294967297", "4294967295/4294967297");
        EDGES.exact("4294967296/4294967296", "1");
        EDGES.exact("4294967297/4294967296", "4294967297/4294967296");
        EDGES.exact("18446744073709551615/4294967295", "4294967297");
        EDGES.exact("18446744073709551616/18446744073709551617", "18446744073709551616/18446744073709551617");
        EDGES.due("bits(true) of 0/5", Subject.having("0/5").bits(true), 1);
        EDGES.due("bits(true) of 5/5", Subject.having("5/5").bits(true), 1);
        EDGES.due("bits(true) of 5/10", Subject.having("5/10").bits(true), 2);
        EDGES.due("exact() of 2.0", exactOf("2.0"), "2");
        EDGES.due("exact() of 0.5", exactOf("0.5"), "1/2");
        EDGES.due("exact() of 1.5", exactOf("1.5"), "3/2");
    }

    /** 2^n + 1 and 2^n - 1 have no common factor; both are given one, below and above the powers of two about 32 bits each. */
    private static void lowestTermsOfLongFractions() {
        EDGES.sentence("a fraction in lowest terms");
        int[] sizes = {1, 31, 32, 33, 63, 64, 65, 96, 127, 128, 129, 320};
        for (int size : sizes) {
            for (int factorSize : sizes) {
                BigInteger more = BigInteger.ONE.shiftLeft(size).add(BigInteger.ONE);
                BigInteger less = BigInteger.ONE.shiftLeft(size).subtract(BigInteger.ONE);
                BigInteger factor = BigInteger.ONE.shiftLeft(factorSize).subtract(BigInteger.valueOf(factorSize % 3));
                inLowestTerms(more, less, factor);
                inLowestTerms(less, more, factor.add(BigInteger.ONE));
                inLowestTerms(more.multiply(more), BigInteger.TWO, factor);
                inLowestTerms(BigInteger.ONE, less, factor);
            }
        }
    }

    private static void inLowestTerms(BigInteger n, BigInteger d, BigInteger factor) {
        String text = "#x-" + n.multiply(factor).toString(16) + "/" + d.multiply(factor).toString(16);
        Subject x = Subject.having(text);
        String written = d.equals(BigInteger.ONE) ? "-" + n.toString(16) : "-" + n.toString(16) + "/" + d.toString(16);
        EDGES.due("write(16) of " + text, x.written(16), written);
        EDGES.due("bits(false) of " + text, x.bits(false), n.bitLength());
        EDGES.due("bits(true) of " + text, x.bits(true), d.bitLength());
    }

    private static String exactOf(String text) {
        Subject x = Subject.having(text);
        x.exact();
        return x.written(10);
    }

    /** Each code with each base: a digit where its value is below the base, else the text is none. */
    private static void digitsOfTheBase() {
        EDGES.sentence("prefixes #x #b #o #d (base 16, 2, 8, 10; else 10)");
        String[] prefixes = {"#x", "#b", "#o", "#d", ""};
        int[] bases = {16, 2, 8, 10, 10};
        for (int i = 0; i < prefixes.length; i++) {
            for (char c = 0; c < 128; c++) {
                int digit = "0123456789abcdef".indexOf(Character.toLowerCase(c));
                if (digit >= 0 && digit < bases[i]) {
                    EDGES.exact(prefixes[i] + c, Integer.toString(digit));
                    EDGES.exact(prefixes[i] + "10/1" + c, new Fraction(bases[i], bases[i] + digit).toString());
                } else {
                    EDGES.none(prefixes[i] + c);
                    EDGES.none(prefixes[i] + "10/1" + c);
                }
            }
            EDGES.exact(prefixes[i] + "10", Integer.toString(bases[i]));
            EDGES.exact(prefixes[i] + "-10/11", "-" + bases[i] + "/" + (bases[i] + 1));
        }
    }

    /** A fraction of small numbers in lowest terms. */
    private record Fraction(int top, int bottom) {
        @Override
        public String toString() {
            int common = BigInteger.valueOf(top).gcd(BigInteger.valueOf(bottom)).intValue();
            return bottom == common ? Integer.toString(top / common) : top / common + "/" + bottom / common;
        }
    }

    private static void prefixesEachOnce() {
        EDGES.sentence("in either order, each at most once");
        String[] bases = {"#x", "#b", "#o", "#d"};
        String[] sixteens = {"10", "10000", "20", "16"};
        for (int i = 0; i < bases.length; i++) {
            EDGES.exact(bases[i] + sixteens[i], "16");
            EDGES.exact(bases[i] + "#e" + sixteens[i], "16");
            EDGES.exact("#e" + bases[i] + sixteens[i], "16");
            EDGES.inexact(bases[i] + "#i" + sixteens[i], 16);
            EDGES.inexact("#i" + bases[i] + sixteens[i], 16);
            EDGES.none(bases[i] + bases[i] + "1");
            EDGES.none(bases[i] + bases[(i + 1) % 4] + "1");
            EDGES.none("#e" + bases[i] + "#e1");
            EDGES.none("#e" + bases[i] + "#i1");
            EDGES.none("#i" + bases[i] + "#i1");
            EDGES.none(bases[i] + "#e" + bases[i] + "1");
            EDGES.none(bases[i] + "#e" + bases[(i + 1) % 4] + "1");
            EDGES.none(bases[i]);
            EDGES.none(bases[i] + "#e");
            EDGES.none("#i" + bases[i]);
            EDGES.none("1" + bases[i]);
            EDGES.none("-" + bases[i] + "1");
        }
        EDGES.exact("#e1", "1");
        EDGES.inexact("#i1", 1);
        String[] wrong = {"#e#e1", "#i#i1", "#e#i1", "#i#e1", "#", "##", "#1", "##x1", "#x#", "#x#1", "#e", "#i", "#a1", "# x1"};
        for (String text : wrong) {
            EDGES.none(text);
        }
    }

    private static void oneSignOrNone() {
        EDGES.sentence("then a sign or none");
        String[] bodies = {"1", "1/2", "1.5", ".5", "1e1"};
        for (String body : bodies) {
            long answer = body.contains(".") || body.contains("e") ? 2 : 1;
            String[] signs = {"", "+", "-"};
            for (String sign : signs) {
                Subject x = Subject.having(sign + body);
                EDGES.due("negative() of " + sign + body, x.negative(), sign.equals("-") ? 1 : 0);
                EDGES.due("read() of " + sign + body, x.read(), answer);
                EDGES.none("+" + sign + sign + body + "+");
            }
            EDGES.none("++" + body);
            EDGES.none("--" + body);
            EDGES.none("+-" + body);
            EDGES.none("-+" + body);
            EDGES.none(body + "-");
        }
        EDGES.exact("#x-f", "-15");
        EDGES.none("+#xf");
        EDGES.none("1/-2");
        EDGES.none("1/+2");
        EDGES.none("+");
        EDGES.none("-");
    }

    private static void atLeastOneDigit() {
        EDGES.sentence("at least one digit");
        EDGES.inexact("1.", 1);
        EDGES.inexact(".1", 0.1);
        EDGES.inexact("1.e1", 10);
        EDGES.inexact(".1e1", 1);
        EDGES.inexact("-.0", -0.0);
        EDGES.exact("#e.5", "1/2");
        EDGES.exact("#e5.", "5");
        String[] wrong = {"", ".", "+.", "-.", ".e1", "-.e1", "e1", "+e1", "#e.", "#i.", "#d.", "#d.e1", "#e", "#x", "#x-"};
        for (String text : wrong) {
            EDGES.none(text);
        }
    }

    private static void denominatorNotZero() {
        EDGES.sentence("digits / digits (denominator not 0)");
        EDGES.exact("1/1", "1");
        EDGES.exact("5/01", "5");
        EDGES.exact("0/1", "0");
        EDGES.exact("1/" + "0".repeat(397) + "1", "1");
        EDGES.exact("#b1/1", "1");
        EDGES.inexact("#i1/1", 1);
        EDGES.inexact("#i0/1", 0.0);
        String[] wrong = {"1/0", "0/0", "-1/0", "1/00", "#i1/0", "#i0/0", "#e1/0", "#x1/0", "#b0/0", "1/" + "0".repeat(398), "1/",
            "/1", "/", "-/1", "1//1", "1/1/1", "#i1/", "#x/1", "1/1.", "1./1", "1/1e1", "1e1/1", "1/.1"};
        for (String text : wrong) {
            EDGES.none(text);
        }
    }

    private static void onePointOrNone() {
        EDGES.sentence("digits, with one point somewhere or none");
        EDGES.exact("125", "125");
        EDGES.inexact(".125", 0.125);
        EDGES.inexact("1.25", 1.25);
        EDGES.inexact("12.5", 12.5);
        EDGES.inexact("125.", 125);
        String[] wrong = {"..125", "1..25", ".1.25", ".12.5", ".125.", "125..", "1.2.5", "1.25e.1", "1.25e1.", "1.2e1.5"};
        for (String text : wrong) {
            EDGES.none(text);
        }
    }

    private static void pointAndExponentInBaseTen() {
        EDGES.sentence("in base 10: digits, with one point somewhere or none");
        EDGES.inexact("1.1", 1.1);
        EDGES.inexact("#d1.1", 1.1);
        EDGES.inexact("1e1", 10);
        EDGES.inexact("#d1e1", 10);
        EDGES.exact("#d#e1.5e1", "15");
        String[] others = {"#x", "#b", "#o"};
        for (String prefix : others) {
            EDGES.none(prefix + "1.1");
            EDGES.none(prefix + "1.");
            EDGES.none(prefix + ".1");
            EDGES.none(prefix + "1e+1");
            EDGES.none(prefix + "#e1.1");
            EDGES.none("#i" + prefix + "1.1");
        }
        EDGES.none("#b1e1");
        EDGES.none("#o1e1");
        EDGES.exact("#x1e1", "481");
    }

    private static void oneToFourDigitsBehindE() {
        EDGES.sentence("and then e, a sign or none, and one to four digits, or nothing");
        EDGES.inexact("1e1", 10);
        EDGES.inexact("1e01", 10);
        EDGES.inexact("1e001", 10);
        EDGES.inexact("1e0001", 10);
        EDGES.inexact("1e0000", 1);
        EDGES.inexact("1e-0001", 0.1);
        EDGES.inexact("1e+0001", 10);
        EDGES.inexact("1e9999", Double.POSITIVE_INFINITY);
        EDGES.inexact("1e-9999", 0.0);
        EDGES.exact("#e1e0003", "1000");
        EDGES.exact("1", "1");
        String[] wrong = {"1e", "1e+", "1e-", "1.e", ".1e-", "#e1e", "1e00001", "1e-00001", "1e+00001", "1e00000", "1e10000",
            "1e-10000", "1e99999", "#e1e00003", "1e1e1", "1ee1", "1e1e", "1e1/1", "1e 1", "1ea"};
        for (String text : wrong) {
            EDGES.none(text);
        }
        // The exponent of four digits is added to the place that a point gives, without a bound of its own.
        EDGES.inexact("0." + "0".repeat(389) + "1e0390", 1);
        EDGES.inexact("1" + "0".repeat(390) + "e-0390", 1);
    }

    private static void signBehindE() {
        EDGES.sentence("and then e, a sign or none");
        EDGES.inexact("25e1", 250);
        EDGES.inexact("25e+1", 250);
        EDGES.inexact("25e-1", 2.5);
        EDGES.inexact("25e-0", 25);
        EDGES.none("25e++1");
        EDGES.none("25e--1");
        EDGES.none("25e+-1");
        EDGES.none("25e-+1");
        EDGES.none("25e1-");
        EDGES.none("25-e1");
    }

    private static void pointOrEMakesADouble() {
        EDGES.sentence("a point or an e makes it a double: the one nearest to that value, if there is no #e");
        EDGES.exact("1", "1");
        EDGES.inexact("1.", 1);
        EDGES.inexact("1e0", 1);
        EDGES.inexact("1.0", 1);
        EDGES.inexact("#i1.", 1);
        EDGES.inexact("#i1e0", 1);
        EDGES.exact("#e1.", "1");
        EDGES.exact("#e1e0", "1");
        EDGES.exact("#e1.0", "1");
        EDGES.exact("#e0.1", "1/10");
        EDGES.exact("#e-0.1e-1", "-1/100");
        EDGES.exact("#e1e23", "100000000000000000000000");
        EDGES.exact("#e9007199254740993.0", "9007199254740993");
        EDGES.inexact("9007199254740993.0", 9007199254740992.0);
        EDGES.exact("9007199254740993", "9007199254740993");
    }

    private static void namesWithASign() {
        EDGES.sentence("or, with a sign, inf.0 or nan.0");
        EDGES.inexact("+inf.0", Double.POSITIVE_INFINITY);
        EDGES.inexact("-inf.0", Double.NEGATIVE_INFINITY);
        EDGES.inexact("+nan.0", Double.NaN);
        EDGES.inexact("-nan.0", Double.NaN);
        String[] wrong = {"inf.0", "nan.0", "#iinf.0", "#inan.0", "+inf", "-nan", "+inf.", "-nan.", "+inf.1", "+nan.1", "+inf.00",
            "-nan.00", "+inf.0 ", " +inf.0", "++inf.0", "-+nan.0", "+in.0", "+inff.0", "+nan0", "+inf,0", "1+inf.0", "+1inf.0",
            "+inf.0e1", "+inf.0/1", "+nan.0+", "+inf.0#i", "+i", "+n", "+inf.0\0", "+inf.o"};
        for (String text : wrong) {
            EDGES.none(text);
        }
    }

    private static void namesNotWithE() {
        EDGES.sentence("inf.0 or nan.0 (not with #e)");
        String[] names = {"inf.0", "nan.0"};
        for (String name : names) {
            double size = name.equals("inf.0") ? Double.POSITIVE_INFINITY : Double.NaN;
            EDGES.inexact("#i+" + name, size);
            EDGES.inexact("#d-" + name, -size);
            EDGES.inexact("#d#i+" + name, size);
            EDGES.inexact("#i#d-" + name, -size);
            EDGES.none("#e+" + name);
            EDGES.none("#e-" + name);
            EDGES.none("#d#e+" + name);
            EDGES.none("#e#d-" + name);
            EDGES.none("#x#e-" + name);
        }
    }

    private static void inexactRatios() {
        EDGES.sentence("#i with a fraction or integer: the nearest double.");
        EDGES.exact("3", "3");
        EDGES.exact("#e3", "3");
        EDGES.inexact("#i3", 3);
        EDGES.inexact("#i-3", -3);
        EDGES.exact("1/3", "1/3");
        EDGES.exact("#e1/3", "1/3");
        EDGES.inexact("#i1/3", 1.0 / 3);
        EDGES.inexact("#i-2/3", -2.0 / 3);
        EDGES.inexact("#x#iff/10", 15.9375);
        EDGES.inexact("#i" + "7".repeat(199) + "/" + "7".repeat(198), 10);
        EDGES.inexact("#i1/1" + "0".repeat(324), 0.0);
        EDGES.inexact("#i1/1" + "0".repeat(323), 1e-323);
        EDGES.inexact("#i1" + "0".repeat(308), 1e308);
        EDGES.inexact("#i1" + "0".repeat(309), Double.POSITIVE_INFINITY);
    }

    private static void greatAndSmallLetters() {
        EDGES.sentence("Letters of digits and e may be great or small, inf.0 and prefixes small only.");
        EDGES.exact("#xabcdef", "11259375");
        EDGES.exact("#xABCDEF", "11259375");
        EDGES.exact("#xAbCdEf/F", "750625");
        EDGES.inexact("1e2", 100);
        EDGES.inexact("1E2", 100);
        EDGES.inexact("1.5E-2", 0.015);
        EDGES.exact("#e1E2", "100");
        String[] wrong = {"+INF.0", "+Inf.0", "+iNf.0", "+inF.0", "-NAN.0", "-Nan.0", "-nAn.0", "-naN.0", "#X10", "#B10", "#O10",
            "#D10", "#E10", "#I10", "#x#E10", "#e#X10", "#I#x10"};
        for (String text : wrong) {
            EDGES.none(text);
        }
    }

    private static void numeratorOf4096Bits() {
        EDGES.sentence("Exact numbers whose numerator .. would have more than 4096 bits are none.");
        // The greatest multiple of 10^850 below 2^4096; the next one has a bit more.
        BigInteger tens = BigInteger.TEN.pow(850);
        BigInteger most = BigInteger.ONE.shiftLeft(4096).divide(tens);
        BigInteger next = most.add(BigInteger.ONE);
        EDGES.due("bits(false) of the greatest", Subject.having("#e" + most + "e850").bits(false), 4096);
        EDGES.due("bits(false) of the least", Subject.having("#e-" + most + "e850").bits(false), 4096);
        EDGES.due("output in base 16", Subject.having("#e-" + most + "e850").written(16), "-" + most.multiply(tens).toString(16));
        EDGES.none("#e" + next + "e850");
        EDGES.none("#e-" + next + "e850");
        EDGES.none("#e" + next + "000e847");
        EDGES.none("#e" + next.toString().charAt(0) + "." + next.toString().substring(1) + "e" + (849 + next.toString().length()));
        EDGES.due("bits(false) of 10^1233", Subject.having("#e1e1233").bits(false), 4096);
        EDGES.due("bits(false) of 10^1233, shifted", Subject.having("#e.001e1236").bits(false), 4096);
        EDGES.none("#e2e1233");
        EDGES.none("#e1e1234");
        EDGES.none("#e.001e1237");
        EDGES.inexact("#i" + most + "e850", Double.POSITIVE_INFINITY);
        EDGES.inexact(next + "e850", Double.POSITIVE_INFINITY);
    }

    private static void denominatorOf4096Bits() {
        EDGES.sentence("Exact numbers whose .. denominator would have more than 4096 bits are none.");
        // 10^1234 has 4100 bits, and each factor of 2 in the numerator takes one from the denominator.
        EDGES.due("bits(true) of 32e-1234", Subject.having("#e32e-1234").bits(true), 4095);
        EDGES.due("bits(true) of 16e-1234", Subject.having("#e16e-1234").bits(true), 4096);
        EDGES.due("bits(true) of -16e-1234", Subject.having("#e-16e-1234").bits(true), 4096);
        EDGES.none("#e8e-1234");
        EDGES.none("#e-8e-1234");
        EDGES.due("bits(true) of 10e-1234", Subject.having("#e10e-1234").bits(true), 4096);
        EDGES.due("bits(true) of 1.0e-1233", Subject.having("#e1.0e-1233").bits(true), 4096);
        EDGES.none("#e5e-1234");
        EDGES.none("#e1e-1234");
        EDGES.none("#e.1e-1233");
        EDGES.due("bits(true) of 1e-1233", Subject.having("#e1e-1233").bits(true), 4096);
        String twos = BigInteger.ONE.shiftLeft(1300).toString();
        int most = placeWithBits(BigInteger.ONE.shiftLeft(1300), 4096);
        EDGES.due("bits(true) of 2^1300 / 10^" + most, Subject.having("#e" + twos + "e-" + most).kind(), 1);
        EDGES.none("#e" + twos + "e-" + (most + 1));
        String fives = BigInteger.valueOf(5).pow(550).toString();
        int mostOfFives = placeWithBits(BigInteger.valueOf(5).pow(550), 4096);
        EDGES.due("bits(true) of 5^550 / 10^" + mostOfFives, Subject.having("#e" + fives + "e-" + mostOfFives).kind(), 1);
        EDGES.none("#e" + fives + "e-" + (mostOfFives + 1));
        EDGES.inexact("#i1e-1234", 0.0);
    }

    /** The greatest place for which top / 10^place has a denominator of at most so many bits. */
    private static int placeWithBits(BigInteger top, int bits) {
        int place = 0;
        BigInteger bottom = BigInteger.ONE;
        while (bottom.divide(bottom.gcd(top)).bitLength() <= bits) {
            place++;
            bottom = bottom.multiply(BigInteger.TEN);
        }
        return place - 1;
    }

    private static void farBeyond4096Bits() {
        EDGES.sentence("Exact numbers whose numerator or denominator would have more than 4096 bits are none.");
        String[] wrong = {"#e1e9999", "#e-1e9999", "#e1e-9999", "#e-1e-9999", "#e" + "9".repeat(392) + "e9999",
            "#e." + "9".repeat(391) + "e9999", "#e" + "9".repeat(391) + "e-9999", "#e." + "9".repeat(390) + "e-9999",
            "#e" + "8".repeat(391) + "e-1701", "#e" + "8".repeat(391) + "e-1700", "#e1" + "0".repeat(389) + "e-1623"};
        for (String text : wrong) {
            EDGES.none(text);
        }
        EDGES.due("bits(true) of 10^389 / 10^1622", Subject.having("#e1" + "0".repeat(389) + "e-1622").bits(true), 4096);
        EDGES.due("bits(false) of 10^-390 * 10^1623", Subject.having("#e." + "0".repeat(389) + "1e1623").bits(false), 4096);
        EDGES.none("#e." + "0".repeat(389) + "1e1624");
    }

    private static void zerosOfAnyExponent() {
        EDGES.sentence("Exact numbers whose numerator or denominator would have more than 4096 bits are none.");
        String[] zeros = {"#e0e9999", "#e0e-9999", "#e-0e9999", "#e.0e-9999", "#e0.e9999", "#e" + "0".repeat(391) + "e-9999"};
        for (String text : zeros) {
            EDGES.exact(text, "0");
        }
        EDGES.inexact("0e9999", 0.0);
        EDGES.inexact("-0e9999", -0.0);
        EDGES.inexact("-.0e-9999", -0.0);
    }

    /** What one text leaves behind is not seen in the number of the next one, in any order of two. */
    private static void oneTextAfterAnother() {
        EDGES.sentence("The number becomes the one that the text tells");
        String[] texts = {"0", "7", "-12345678901234567890123456789/7", "7/12345678901234567890123456789", "#x" + "f".repeat(78) + "/3",
            "#xc/" + "f".repeat(80), "#x" + "e".repeat(70) + "/" + "c".repeat(70), "#e" + "7".repeat(90) + "5e-95", "#e375e-2",
            "#e1e-60", "#e" + "5".repeat(80) + "e3", "#e1e1234", "what", "#i1/3", "#i" + "9".repeat(70) + "/" + "7".repeat(70), "0.1",
            "-" + "1".repeat(100) + "e-400", "+nan.0", "-inf.0", "#b1/100000000000000000000000000000000"};
        for (String second : texts) {
            String due = numberAfter(second);
            for (String first : texts) {
                EDGES.due("number of " + second + " after " + first, numberAfter(first, second), due);
            }
        }
    }

    private static String numberAfter(String... texts) {
        Subject x = new Subject();
        for (String text : texts) {
            x.retype(text);
            x.read();
        }
        int base = x.kind() == 1 ? 16 : 10;
        return x.number() + " " + x.written(base);
    }
}
