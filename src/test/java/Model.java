import java.math.BigDecimal;
import java.math.BigInteger;
import java.math.MathContext;
import java.math.RoundingMode;
import java.util.regex.Matcher;
import java.util.regex.Pattern;

/** The document once more, written with Java's own big numbers, to compare the class with. */
final class Model {
    private static final Pattern PREFIXES = Pattern.compile("(?:#([xbod])(?:#([ei]))?|#([ei])(?:#([xbod]))?)?(.*)", Pattern.DOTALL);
    private static final Pattern DECIMAL = Pattern.compile("[+-]?(?=\\.?[0-9])([0-9]*\\.?[0-9]*)(?:[eE]([+-]?[0-9]{1,4}))?");
    private static final Pattern NAME = Pattern.compile("([+-])(inf|nan)\\.0");

    private final StringBuilder text = new StringBuilder();
    private String output = "";
    private int kind = 0;
    private double number = 0;
    private BigInteger top = BigInteger.ZERO;
    private BigInteger bottom = BigInteger.ONE;

    int type(int code) {
        if (code < 0 || code > 127 || text.length() == 400) {
            return -1;
        }
        text.append((char) code);
        return text.length();
    }

    void clear() {
        text.setLength(0);
    }

    int read() {
        kind = 0;
        Matcher parts = PREFIXES.matcher(text);
        parts.matches();
        String baseLetter = parts.group(1) != null ? parts.group(1) : parts.group(4) != null ? parts.group(4) : "d";
        String exactness = parts.group(2) != null ? parts.group(2) : parts.group(3) != null ? parts.group(3) : "";
        readBody(parts.group(5), baseLetter.charAt(0), exactness);
        return Math.min(kind, 2);
    }

    private void readBody(String body, char baseLetter, String exactness) {
        int base = baseLetter == 'x' ? 16 : baseLetter == 'b' ? 2 : baseLetter == 'o' ? 8 : 10;
        String digits = base == 16 ? "[0-9a-fA-F]+" : base == 10 ? "[0-9]+" : base == 8 ? "[0-7]+" : "[01]+";
        Matcher name = NAME.matcher(body);
        Matcher decimal = DECIMAL.matcher(body);
        if (Pattern.matches("[+-]?" + digits + "(/" + digits + ")?", body)) {
            readRatio(body, base, exactness);
        } else if (base == 10 && decimal.matches()) {
            if (exactness.equals("e")) {
                readExactDecimal(decimal, body.startsWith("-"));
            } else {
                setDouble(Double.parseDouble(body));
            }
        } else if (name.matches() && !exactness.equals("e")) {
            double size = name.group(2).equals("inf") ? Double.POSITIVE_INFINITY : Double.NaN;
            setDouble(name.group(1).equals("-") ? -size : size);
        }
    }

    private void readRatio(String body, int base, String exactness) {
        boolean minus = body.startsWith("-");
        String[] parts = body.replaceFirst("^[+-]", "").split("/");
        BigInteger n = new BigInteger(parts[0], base);
        BigInteger d = parts.length > 1 ? new BigInteger(parts[1], base) : BigInteger.ONE;
        if (d.signum() == 0) {
            return;
        }
        if (exactness.equals("i")) {
            double size = nearest(n, d);
            setDouble(minus ? -size : size);
        } else {
            setExact(minus ? n.negate() : n, d);
        }
    }

    private void readExactDecimal(Matcher decimal, boolean minus) {
        String digits = decimal.group(1);
        int point = digits.indexOf('.');
        BigInteger size = new BigInteger(digits.replace(".", ""));
        int tens = point < 0 ? 0 : point + 1 - digits.length();
        tens += decimal.group(2) == null ? 0 : Integer.parseInt(decimal.group(2));
        BigInteger signed = minus ? size.negate() : size;
        if (tens >= 0) {
            setExact(signed.multiply(BigInteger.TEN.pow(tens)), BigInteger.ONE);
        } else {
            setExact(signed, BigInteger.TEN.pow(-tens));
        }
    }

    private void setDouble(double value) {
        number = value;
        kind = value != value ? 4 : Double.isInfinite(value) ? 3 : 2;
    }

    private void setExact(BigInteger n, BigInteger d) {
        BigInteger common = n.gcd(d);
        top = n.divide(common);
        bottom = d.divide(common);
        kind = top.abs().bitLength() > 4096 || bottom.bitLength() > 4096 ? 0 : 1;
    }

    boolean make(boolean negative, long units, int place) {
        if (units < 0 || place < -2000 || place > 2000) {
            return false;
        }
        BigInteger n = BigInteger.valueOf(units).shiftLeft(Math.max(place, 0));
        double size = nearest(n, BigInteger.ONE.shiftLeft(Math.max(-place, 0)));
        setDouble(negative ? -size : size);
        return true;
    }

    boolean divide(long n, long d) {
        if (d <= 0) {
            return false;
        }
        double size = nearest(BigInteger.valueOf(n).abs(), BigInteger.valueOf(d));
        setDouble(n < 0 ? -size : size);
        return true;
    }

    boolean exact() {
        if (kind != 2) {
            return false;
        }
        BigDecimal value = new BigDecimal(number);
        setExact(value.unscaledValue(), BigInteger.TEN.pow(value.scale()));
        return true;
    }

    boolean inexact() {
        if (kind != 1) {
            return false;
        }
        double size = nearest(top.abs(), bottom);
        setDouble(top.signum() < 0 ? -size : size);
        return true;
    }

    int kind() {
        return kind;
    }

    boolean negative() {
        return kind == 1 ? top.signum() < 0 : (kind == 2 || kind == 3) && Double.doubleToLongBits(number) < 0;
    }

    long units() {
        return kind == 2 ? Long.parseLong(Check.told(number).split(" ")[2]) : -1;
    }

    int place() {
        return kind == 2 ? Integer.parseInt(Check.told(number).split(" ")[3]) : 0;
    }

    int bits(boolean denominator) {
        return kind != 1 ? -1 : denominator ? bottom.bitLength() : top.abs().bitLength();
    }

    int write(int base) {
        if (kind == 0 || (kind == 1 ? base < 2 || base > 16 : base != 10)) {
            return -1;
        }
        if (kind == 1) {
            output = top.toString(base) + (bottom.equals(BigInteger.ONE) ? "" : "/" + bottom.toString(base));
        } else {
            output = writtenDouble(number);
        }
        return output.length();
    }

    int out(int i) {
        return i >= 0 && i < output.length() ? output.charAt(i) : -1;
    }

    boolean back() {
        if (output.length() > 400) {
            return false;
        }
        text.setLength(0);
        text.append(output);
        return true;
    }

    String output() {
        return output;
    }

    /** Of the doubles about a first guess the one with the least distance, which is looked at exactly. */
    static double nearest(BigInteger n, BigInteger d) {
        if (n.signum() == 0) {
            return 0;
        }
        double guess = new BigDecimal(n).divide(new BigDecimal(d), new MathContext(30)).doubleValue();
        double best = guess;
        for (double other : new double[] {Math.nextDown(guess), Math.nextUp(guess)}) {
            if (!(other >= 0)) {
                continue;
            }
            int order = distance(other, n, d).compareTo(distance(best, n, d));
            if (order < 0 || order == 0 && (Double.doubleToLongBits(other) & 1) == 0) {
                best = other;
            }
        }
        return best;
    }

    private static BigDecimal distance(double value, BigInteger n, BigInteger d) {
        return sizeOf(value).multiply(new BigDecimal(d)).subtract(new BigDecimal(n)).abs();
    }

    private static BigDecimal sizeOf(double value) {
        return Double.isInfinite(value) ? new BigDecimal(BigInteger.ONE.shiftLeft(1024)) : new BigDecimal(value);
    }

    static String writtenDouble(double value) {
        if (value != value) {
            return "+nan.0";
        }
        if (Double.isInfinite(value)) {
            return value > 0 ? "+inf.0" : "-inf.0";
        }
        String sign = Double.doubleToLongBits(value) < 0 ? "-" : "";
        if (value == 0) {
            return sign + "0.0";
        }
        BigDecimal shortest = shortest(Math.abs(value)).stripTrailingZeros();
        String digits = shortest.unscaledValue().toString();
        return sign + laidOut(digits, digits.length() - shortest.scale());
    }

    private static String laidOut(String digits, int p) {
        if (0 < p && p <= 21) {
            String padded = digits + "0".repeat(Math.max(0, p - digits.length()));
            String others = padded.substring(p);
            return padded.substring(0, p) + "." + (others.isEmpty() ? "0" : others);
        }
        if (-7 < p && p <= 0) {
            return "0." + "0".repeat(-p) + digits;
        }
        return digits.charAt(0) + (digits.length() > 1 ? "." + digits.substring(1) : "") + "e" + (p - 1);
    }

    /** Tries one digit, two digits, and so on: the two numbers of so many digits about the value. */
    private static BigDecimal shortest(double value) {
        BigDecimal exact = new BigDecimal(value);
        BigDecimal two = BigDecimal.valueOf(2);
        BigDecimal low = exact.add(sizeOf(Math.nextDown(value))).divide(two);
        BigDecimal high = exact.add(sizeOf(Math.nextUp(value))).divide(two);
        int least = (Double.doubleToLongBits(value) & 1) == 0 ? 0 : 1;
        for (int n = 1; n <= 17; n++) {
            BigDecimal down = exact.round(new MathContext(n, RoundingMode.DOWN));
            BigDecimal up = exact.round(new MathContext(n, RoundingMode.UP));
            boolean downFits = down.compareTo(low) >= least;
            boolean upFits = high.compareTo(up) >= least;
            if (downFits && upFits) {
                return exact.round(new MathContext(n, RoundingMode.HALF_EVEN));
            }
            if (downFits || upFits) {
                return downFits ? down : up;
            }
        }
        throw new IllegalStateException("no digits for " + value);
    }
}
