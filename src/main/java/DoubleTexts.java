/**
 * Numbers read from their texts, exactly or as the nearest double, and doubles written with the fewest digits that tell
 * them.
 */
public final class DoubleTexts {
    private static final int TEXT_LIMIT = 400;
    private static final int EXACT_BITS = 4096;

    /* A sign, two numbers in base 2 and the stroke between them. */
    private static final int OUTPUT_LIMIT = 2 * EXACT_BITS + 2;

    /* The longest row is the denominator of #e with the place FEWEST_EXACT_TENS, some 5,650 bits. */
    private static final int LIMBS = 192;
    private static final long LIMB_MASK = 0xFFFFFFFFL;

    /* A chunk of digits is closed at 2^26, so that one digit more of base 16 still leaves it below 2^31. */
    private static final int CHUNK_LIMIT = 1 << 26;
    private static final int FIVES_IN_CHUNK = 13;
    private static final int CHUNK_OF_FIVES = 1220703125;

    private static final int NONE = 0;
    private static final int EXACT = 1;
    private static final int FINITE = 2;
    private static final int INFINITE = 3;
    private static final int NAN = 4;

    private static final int LONG_BITS = 64;
    private static final int SIGNIFICAND_BITS = 53;
    private static final long SIGNIFICAND_END = 1L << SIGNIFICAND_BITS;
    private static final int LEAST_PLACE = -1074;
    private static final int GREATEST_PLACE = 971;
    private static final int MAKE_PLACE_LIMIT = 2000;

    /* One bit more than the significand may be needed for the half, and one more because the ratio may be below 1. */
    private static final int QUOTIENT_BITS = 55;

    /* 10^1234 has more than 4096 bits, and any whole multiple of it too. */
    private static final int MOST_EXACT_TENS = 1233;
    /* 400 digits can cancel no more than 10^400 of the denominator, and 10^1300 has more than 4096 bits. */
    private static final int FEWEST_EXACT_TENS = -1700;
    /* A whole number times 10^310 is infinite; a number of 400 digits times 10^-730 is below half the least double. */
    private static final int MOST_DOUBLE_TENS = 310;
    private static final int FEWEST_DOUBLE_TENS = -730;

    private static final int MOST_DIGITS = 20;
    private static final int LAST_PLAIN_POINT = 21;
    private static final int FIRST_PLAIN_POINT = -6;

    private static final int NO_FORM = 0;
    private static final int INTEGER_FORM = 1;
    private static final int FRACTION_FORM = 2;
    private static final int DECIMAL_FORM = 3;
    private static final int INFINITE_FORM = 4;
    private static final int NAN_FORM = 5;

    private static final String INFINITE_NAME = "inf.0";
    private static final String NAN_NAME = "nan.0";

    private final Numeral text;
    private final Line output;
    private final Value number;
    private final Shortest shortest;
    private final Natural spare;

    public DoubleTexts() {
        text = new Numeral();
        output = new Line();
        number = new Value();
        shortest = new Shortest();
        spare = new Natural();
    }

    public int type(int code) {
        boolean fits = code >= 0 && code <= 127 && text.length < TEXT_LIMIT;
        if (!fits) {
            return -1;
        }
        text.append(code);
        return text.length;
    }

    public void clear() {
        text.length = 0;
    }

    public int read() {
        switch (text.parse()) {
            case INTEGER_FORM:
            case FRACTION_FORM:
                takeRatio();
                break;
            case DECIMAL_FORM:
                takeDecimal();
                break;
            case INFINITE_FORM:
                number.setInfinite(text.minus);
                break;
            case NAN_FORM:
                number.setNan();
                break;
            default:
                number.setNone();
                break;
        }
        return Math.min(number.state, 2);
    }

    public boolean make(boolean negative, long units, int place) {
        if (units < 0 || place < -MAKE_PLACE_LIMIT || place > MAKE_PLACE_LIMIT) {
            return false;
        }
        number.roundUnits(negative, units, place, false);
        return true;
    }

    public boolean divide(long n, long d) {
        if (d <= 0) {
            return false;
        }
        // The least long has no absolute value as a long, but its bits are the right ones without a sign.
        number.top.setUnsigned(n < 0 ? -n : n);
        number.bottom.setUnsigned(d);
        number.roundRatio(n < 0, 0);
        return true;
    }

    public boolean exact() {
        if (number.state != FINITE) {
            return false;
        }
        number.turnToRatio();
        return true;
    }

    public boolean inexact() {
        if (number.state != EXACT) {
            return false;
        }
        number.roundRatio(number.minus, 0);
        return true;
    }

    public int kind() {
        return number.state;
    }

    public boolean negative() {
        return number.minus;
    }

    public long units() {
        return number.state == FINITE ? number.significand : -1;
    }

    public int place() {
        return number.state == FINITE ? number.exponent : 0;
    }

    public int bits(boolean denominator) {
        if (number.state != EXACT) {
            return -1;
        }
        return denominator ? number.bottom.bitLength() : number.top.bitLength();
    }

    public int write(int base) {
        boolean baseFits = number.state == EXACT ? base >= 2 && base <= 16 : base == 10;
        if (number.state == NONE || !baseFits) {
            return -1;
        }
        output.length = 0;
        switch (number.state) {
            case EXACT:
                writeRatio(base);
                break;
            case FINITE:
                writeFinite();
                break;
            case INFINITE:
                output.append(number.minus ? '-' : '+');
                output.appendName(INFINITE_NAME);
                break;
            default:
                output.append('+');
                output.appendName(NAN_NAME);
                break;
        }
        return output.length;
    }

    public int out(int i) {
        return i >= 0 && i < output.length && i < output.codes.length ? output.codes[i] : -1;
    }

    public boolean back() {
        if (output.length > TEXT_LIMIT) {
            return false;
        }
        text.length = 0;
        for (int i = 0; i < output.length && i < output.codes.length; i++) {
            text.append(output.codes[i]);
        }
        return true;
    }

    private void takeRatio() {
        number.setParts(text.top, text.bottom);
        if (text.exactness == 'i') {
            number.roundRatio(text.minus, 0);
        } else {
            number.reduce();
            number.settleRatio(text.minus);
        }
    }

    private void takeDecimal() {
        number.setParts(text.top, text.bottom);
        if (text.exactness == 'e') {
            number.takeDecimalRatio(text.minus, text.tens);
        } else {
            number.roundDecimal(text.minus, text.tens);
        }
    }

    private void writeRatio(int base) {
        if (number.minus) {
            output.append('-');
        }
        spare.copy(number.top);
        output.appendNatural(spare, base);
        if (!number.bottom.isOne()) {
            output.append('/');
            spare.copy(number.bottom);
            output.appendNatural(spare, base);
        }
    }

    private void writeFinite() {
        if (number.minus) {
            output.append('-');
        }
        shortest.find(number.significand, number.exponent);
        int point = shortest.point;
        if (point > 0 && point <= LAST_PLAIN_POINT) {
            output.appendDigits(shortest, 0, point);
            output.append('.');
            output.appendDigits(shortest, point, Math.max(shortest.count, point + 1));
        } else if (point >= FIRST_PLAIN_POINT && point <= 0) {
            output.append('0');
            output.append('.');
            output.appendZeros(-point);
            output.appendDigits(shortest, 0, shortest.count);
        } else {
            writeWithExponent(point - 1);
        }
    }

    private void writeWithExponent(int exponent) {
        output.appendDigits(shortest, 0, 1);
        if (shortest.count > 1) {
            output.append('.');
            output.appendDigits(shortest, 1, shortest.count);
        }
        output.append('e');
        if (exponent < 0) {
            output.append('-');
        }
        spare.setUnsigned(Math.abs(exponent));
        output.appendNatural(spare, 10);
    }

    /** The characters of the output. */
    private static final class Line {
        final byte[] codes;
        int length;

        Line() {
            codes = new byte[OUTPUT_LIMIT];
            length = 0;
        }

        void append(int code) {
            if (length >= 0 && length < codes.length) {
                codes[length] = (byte) code;
                length++;
            }
        }

        void appendName(String name) {
            for (int i = 0; i < name.length(); i++) {
                append(name.charAt(i));
            }
        }

        void appendZeros(int count) {
            for (int i = 0; i < count; i++) {
                append('0');
            }
        }

        void appendDigits(Shortest from, int first, int end) {
            for (int i = first; i < end; i++) {
                append('0' + from.digit(i));
            }
        }

        /** Uses the value up, as its digits are divided off from the last to the first. */
        void appendNatural(Natural value, int base) {
            int start = length;
            int chunk = base;
            int chunkDigits = 1;
            for (; chunkDigits < 32 && chunk > 1 && chunk < CHUNK_LIMIT; chunkDigits++) {
                chunk *= base;
            }
            if (value.isZero()) {
                append('0');
            }
            for (int i = 0; i < OUTPUT_LIMIT && !value.isZero(); i++) {
                int rest = value.divideSmall(chunk);
                appendChunk(rest, base, value.isZero() ? 1 : chunkDigits);
            }
            reverseFrom(start);
        }

        /** The digits of the chunk, last first, at least so many. */
        private void appendChunk(int chunk, int base, int least) {
            int rest = chunk;
            for (int i = 0; i < 32 && base > 1 && (i < least || rest != 0); i++) {
                int digit = rest % base;
                append(digit < 10 ? '0' + digit : 'a' + digit - 10);
                rest /= base;
            }
        }

        private void reverseFrom(int start) {
            int low = start;
            int high = length - 1;
            for (; low >= 0 && low < high && high < codes.length; low++) {
                byte code = codes[low];
                codes[low] = codes[high];
                codes[high] = code;
                high--;
            }
        }
    }

    /** The number: none, a ratio in lowest terms, or a double. */
    private static final class Value {
        final Natural top;
        final Natural bottom;
        private final Natural left;
        private final Natural right;
        int state;
        boolean minus;
        long significand;
        int exponent;

        Value() {
            top = new Natural();
            bottom = new Natural();
            left = new Natural();
            right = new Natural();
            state = NONE;
            minus = false;
            significand = 0;
            exponent = 0;
        }

        void setParts(Natural newTop, Natural newBottom) {
            top.copy(newTop);
            bottom.copy(newBottom);
        }

        void setNone() {
            state = NONE;
            minus = false;
        }

        void setNan() {
            state = NAN;
            minus = false;
        }

        void setInfinite(boolean isMinus) {
            state = INFINITE;
            minus = isMinus;
        }

        void setFinite(boolean isMinus, long newSignificand, int newExponent) {
            state = FINITE;
            minus = isMinus;
            significand = newSignificand;
            exponent = newExponent;
        }

        void setZero(boolean isMinus) {
            setFinite(isMinus, 0, LEAST_PLACE);
        }

        /** The ratio top / bottom, which is in lowest terms, becomes the number. */
        void settleRatio(boolean isMinus) {
            if (top.bitLength() > EXACT_BITS || bottom.bitLength() > EXACT_BITS) {
                setNone();
                return;
            }
            state = EXACT;
            minus = isMinus && !top.isZero();
        }

        /** The double nearest to units * 2^place, or to a little more than that. */
        void roundUnits(boolean isMinus, long units, int place, boolean more) {
            int length = LONG_BITS - Long.numberOfLeadingZeros(units);
            int drop = Math.max(length - SIGNIFICAND_BITS, LEAST_PLACE - place);
            if (length == 0 || drop >= LONG_BITS) {
                setZero(isMinus);
                return;
            }
            long kept = drop > 0 ? roundedShift(units, drop, more) : units << -drop;
            int newPlace = place + drop;
            if (kept == SIGNIFICAND_END) {
                kept >>= 1;
                newPlace++;
            }
            if (newPlace > GREATEST_PLACE) {
                setInfinite(isMinus);
            } else {
                setFinite(isMinus, kept, newPlace);
            }
        }

        private static long roundedShift(long units, int drop, boolean more) {
            long kept = units >>> drop;
            long rest = units & ((1L << drop) - 1);
            long half = 1L << (drop - 1);
            boolean odd = (kept & 1) != 0;
            boolean up = rest > half || rest == half && (more || odd);
            return up ? kept + 1 : kept;
        }

        /** The double nearest to top / bottom * 2^twos; both rows are used up. */
        void roundRatio(boolean isMinus, int twos) {
            if (top.isZero() || bottom.isZero()) {
                setZero(isMinus);
                return;
            }
            int lead = top.bitLength() - bottom.bitLength();
            bottom.shiftLeft(lead);
            top.shiftLeft(-lead);
            long quotient = 0;
            for (int i = 0; i < QUOTIENT_BITS; i++) {
                quotient <<= 1;
                if (top.compareWith(bottom) >= 0) {
                    top.subtract(bottom);
                    quotient |= 1;
                }
                top.shiftLeft(1);
            }
            roundUnits(isMinus, quotient, lead + twos - (QUOTIENT_BITS - 1), !top.isZero());
        }

        /** The double nearest to top * 10^tens. */
        void roundDecimal(boolean isMinus, int tens) {
            if (top.isZero() || tens < FEWEST_DOUBLE_TENS) {
                setZero(isMinus);
                return;
            }
            if (tens > MOST_DOUBLE_TENS) {
                setInfinite(isMinus);
                return;
            }
            bottom.setUnsigned(1);
            top.multiplyFives(tens);
            bottom.multiplyFives(-tens);
            roundRatio(isMinus, tens);
        }

        /** The number becomes top * 10^tens, or none if that has too many bits. */
        void takeDecimalRatio(boolean isMinus, int tens) {
            bottom.setUnsigned(1);
            if (top.isZero()) {
                settleRatio(isMinus);
                return;
            }
            if (tens > MOST_EXACT_TENS || tens < FEWEST_EXACT_TENS) {
                setNone();
                return;
            }
            if (tens >= 0) {
                top.multiplyFives(tens);
                top.shiftLeft(tens);
            } else {
                divideByTens(-tens);
            }
            settleRatio(isMinus);
        }

        /** Only twos and fives can be common with a power of ten, which is far cheaper than the common way. */
        private void divideByTens(int tens) {
            int twos = Math.min(top.trailingZeros(), tens);
            top.shiftRight(twos);
            int fives = 0;
            left.copy(top);
            while (fives < tens && left.divideSmall(5) == 0) {
                top.copy(left);
                fives++;
            }
            bottom.multiplyFives(tens - fives);
            bottom.shiftLeft(tens - twos);
        }

        /** The finite double becomes the exact number with its value. */
        void turnToRatio() {
            top.setUnsigned(significand);
            bottom.setUnsigned(1);
            if (!top.isZero() && exponent >= 0) {
                top.shiftLeft(exponent);
            } else if (!top.isZero()) {
                int common = Math.min(top.trailingZeros(), -exponent);
                top.shiftRight(common);
                bottom.shiftLeft(-exponent - common);
            }
            settleRatio(minus);
        }

        /** Brings top / bottom, of which bottom is not 0, to lowest terms. */
        void reduce() {
            if (top.isZero()) {
                bottom.setUnsigned(1);
                return;
            }
            int topTwos = top.trailingZeros();
            int bottomTwos = bottom.trailingZeros();
            top.shiftRight(topTwos);
            bottom.shiftRight(bottomTwos);
            left.copy(top);
            right.copy(bottom);
            leaveCommonDivisor();
            if (!left.isOne()) {
                top.divideByOddFactor(left);
                bottom.divideByOddFactor(left);
            }
            top.shiftLeft(topTwos - bottomTwos);
            bottom.shiftLeft(bottomTwos - topTwos);
        }

        /** The greatest common divisor of left and right, both odd, is left in both. */
        private void leaveCommonDivisor() {
            int order = left.compareWith(right);
            // Each turn takes a bit or more from one of the two, so the bits of both are turns enough.
            for (int i = 0; i < 64 * LIMBS && order != 0; i++) {
                if (order > 0) {
                    left.subtract(right);
                    left.shiftRight(left.trailingZeros());
                } else {
                    right.subtract(left);
                    right.shiftRight(right.trailingZeros());
                }
                order = left.compareWith(right);
            }
        }
    }

    /** The text, and what number it tells. */
    private static final class Numeral {
        private final byte[] codes;
        int length;
        final Natural top;
        final Natural bottom;
        private int at;
        private int base;
        private boolean signed;
        boolean minus;
        int exactness;
        int tens;

        Numeral() {
            codes = new byte[TEXT_LIMIT];
            length = 0;
            top = new Natural();
            bottom = new Natural();
        }

        void append(int code) {
            if (length >= 0 && length < codes.length) {
                codes[length] = (byte) code;
                length++;
            }
        }

        /** The form of the text; top and bottom become what its digits tell, and a decimal's value is top * 10^tens. */
        int parse() {
            at = 0;
            base = 0;
            exactness = 0;
            tens = 0;
            top.setUnsigned(0);
            bottom.setUnsigned(1);
            if (!takePrefixes()) {
                return NO_FORM;
            }
            if (base == 0) {
                base = 10;
            }
            minus = peek(0) == '-';
            signed = minus || peek(0) == '+';
            if (signed) {
                at++;
            }
            if (isRest(INFINITE_NAME)) {
                return formOfName(INFINITE_FORM);
            }
            return isRest(NAN_NAME) ? formOfName(NAN_FORM) : parseDigits();
        }

        private int formOfName(int form) {
            return signed && exactness != 'e' ? form : NO_FORM;
        }

        private int parseDigits() {
            int whole = takeDigits(top);
            if (at == length) {
                return whole > 0 ? INTEGER_FORM : NO_FORM;
            }
            if (whole > 0 && peek(0) == '/') {
                return parseDenominator();
            }
            return base == 10 ? parseDecimal(whole) : NO_FORM;
        }

        private int parseDenominator() {
            at++;
            bottom.setUnsigned(0);
            takeDigits(bottom);
            return at == length && !bottom.isZero() ? FRACTION_FORM : NO_FORM;
        }

        private int parseDecimal(int whole) {
            int after = 0;
            if (peek(0) == '.') {
                at++;
                after = takeDigits(top);
            }
            if (whole + after == 0) {
                return NO_FORM;
            }
            tens = -after;
            if (peek(0) == 'e' || peek(0) == 'E') {
                at++;
                return takeExponent() && at == length ? DECIMAL_FORM : NO_FORM;
            }
            return at == length ? DECIMAL_FORM : NO_FORM;
        }

        private boolean takeExponent() {
            boolean down = peek(0) == '-';
            if (down || peek(0) == '+') {
                at++;
            }
            int taken = 0;
            int size = 0;
            for (; taken < 4 && isDigit(); taken++) {
                size = size * 10 + digitOf(peek(0));
                at++;
            }
            tens += down ? -size : size;
            return taken > 0;
        }

        /** How many digits there were; they are set behind those that the row has. */
        private int takeDigits(Natural row) {
            int start = at;
            int chunk = 0;
            int scale = 1;
            for (; at < length && isDigit(); at++) {
                chunk = chunk * base + digitOf(peek(0));
                scale *= base;
                if (scale >= CHUNK_LIMIT) {
                    row.multiplyAdd(scale, chunk);
                    chunk = 0;
                    scale = 1;
                }
            }
            row.multiplyAdd(scale, chunk);
            return at - start;
        }

        private boolean takePrefixes() {
            for (int i = 0; i < 2 && peek(0) == '#'; i++) {
                if (!takePrefix(peek(1))) {
                    return false;
                }
                at += 2;
            }
            return true;
        }

        private boolean takePrefix(int letter) {
            int named = baseOf(letter);
            if (named != 0 && base == 0) {
                base = named;
                return true;
            }
            if ((letter == 'e' || letter == 'i') && exactness == 0) {
                exactness = letter;
                return true;
            }
            return false;
        }

        private static int baseOf(int letter) {
            switch (letter) {
                case 'x':
                    return 16;
                case 'b':
                    return 2;
                case 'o':
                    return 8;
                case 'd':
                    return 10;
                default:
                    return 0;
            }
        }

        private boolean isRest(String name) {
            if (length - at != name.length()) {
                return false;
            }
            for (int i = 0; i < name.length(); i++) {
                if (peek(i) != name.charAt(i)) {
                    return false;
                }
            }
            return true;
        }

        private boolean isDigit() {
            int digit = digitOf(peek(0));
            return digit >= 0 && digit < base;
        }

        private static int digitOf(int code) {
            if (code >= '0' && code <= '9') {
                return code - '0';
            }
            if (code >= 'a' && code <= 'f') {
                return code - 'a' + 10;
            }
            return code >= 'A' && code <= 'F' ? code - 'A' + 10 : -1;
        }

        private int peek(int ahead) {
            int index = at + ahead;
            return index >= 0 && index < length && index < codes.length ? codes[index] : -1;
        }
    }

    /** The shortest digits of a finite double: its value lies in 0.d1 .. dn * 10^point. */
    private static final class Shortest {
        private final Natural rest;
        private final Natural unit;
        private final Natural below;
        private final Natural above;
        private final Natural gap;
        private final byte[] digits;
        int count;
        int point;

        Shortest() {
            rest = new Natural();
            unit = new Natural();
            below = new Natural();
            above = new Natural();
            gap = new Natural();
            digits = new byte[MOST_DIGITS];
            count = 0;
            point = 0;
        }

        /** Digit i, counted from 0; 0 behind the last. */
        int digit(int i) {
            return i >= 0 && i < count && i < digits.length ? digits[i] : 0;
        }

        void find(long significand, int exponent) {
            count = 0;
            if (significand == 0) {
                point = 1;
                add(0);
                return;
            }
            setRows(significand, exponent);
            scaleByTens(significand, exponent);
            boolean even = (significand & 1) == 0;
            boolean done = false;
            for (int i = 0; i < MOST_DIGITS && !done; i++) {
                done = takeDigit(even);
            }
        }

        /** The value is rest / unit, and it reaches half way to its neighbours: below / unit and above / unit. */
        private void setRows(long significand, int exponent) {
            boolean narrow = significand == SIGNIFICAND_END >> 1 && exponent > LEAST_PLACE;
            // All are taken four times, so that a quarter of the last unit is whole.
            rest.setUnsigned(significand << 2);
            unit.setUnsigned(4);
            below.setUnsigned(narrow ? 1 : 2);
            above.setUnsigned(2);
            rest.shiftLeft(exponent);
            below.shiftLeft(exponent);
            above.shiftLeft(exponent);
            unit.shiftLeft(-exponent);
        }

        /** Finds the point with 10^(point - 1) <= value < 10^point, and divides the value by 10^point. */
        private void scaleByTens(long significand, int exponent) {
            int twos = LONG_BITS - 1 - Long.numberOfLeadingZeros(significand) + exponent;
            // 78913 / 2^18 is a little below the logarithm of 2: the guess is never above the point.
            point = (twos * 78913) >> 18;
            unit.multiplyTens(point);
            rest.multiplyTens(-point);
            below.multiplyTens(-point);
            above.multiplyTens(-point);
            for (int i = 0; i < 3 && rest.compareWith(unit) >= 0; i++) {
                unit.multiplyAdd(10, 0);
                point++;
            }
        }

        /** Adds the next digit; true if it is the last one, which may be the digit or the one above it. */
        private boolean takeDigit(boolean even) {
            rest.multiplyAdd(10, 0);
            below.multiplyAdd(10, 0);
            above.multiplyAdd(10, 0);
            int digit = 0;
            for (; digit < 9 && rest.compareWith(unit) >= 0; digit++) {
                rest.subtract(unit);
            }
            gap.copy(unit);
            gap.subtract(rest);
            boolean downFits = reaches(below, rest, even);
            boolean upFits = reaches(above, gap, even);
            if (upFits && (!downFits || isUpNearer(digit))) {
                addLast(digit + 1);
            } else {
                add(digit);
            }
            return downFits || upFits;
        }

        private static boolean reaches(Natural reach, Natural distance, boolean even) {
            int order = reach.compareWith(distance);
            return order > 0 || even && order == 0;
        }

        private boolean isUpNearer(int digit) {
            int order = rest.compareWith(gap);
            return order > 0 || order == 0 && digit % 2 != 0;
        }

        /** A ten can only be the first digit: else the digit before it, one higher, would have been the last. */
        private void addLast(int digit) {
            if (digit == 10) {
                add(1);
                point++;
            } else {
                add(digit);
            }
        }

        private void add(int digit) {
            if (count >= 0 && count < digits.length) {
                digits[count] = (byte) digit;
                count++;
            }
        }
    }

    /** A whole number of 0 or more, in limbs of 32 bits, the last bits first. What goes beyond its row is dropped. */
    private static final class Natural {
        private final int[] limbs;
        private int size;

        Natural() {
            limbs = new int[LIMBS];
            size = 0;
        }

        void setUnsigned(long value) {
            limbs[0] = (int) value;
            limbs[1] = (int) (value >>> 32);
            size = 2;
            trim();
        }

        void copy(Natural other) {
            System.arraycopy(other.limbs, 0, limbs, 0, other.size);
            size = other.size;
        }

        boolean isZero() {
            return size == 0;
        }

        boolean isOne() {
            return size == 1 && limbs[0] == 1;
        }

        int bitLength() {
            return size == 0 ? 0 : 32 * size - Integer.numberOfLeadingZeros(limbs[size - 1]);
        }

        int trailingZeros() {
            for (int i = 0; i < size; i++) {
                if (limbs[i] != 0) {
                    return 32 * i + Integer.numberOfTrailingZeros(limbs[i]);
                }
            }
            return 0;
        }

        int compareWith(Natural other) {
            if (size != other.size) {
                return size < other.size ? -1 : 1;
            }
            for (int i = size - 1; i >= 0; i--) {
                if (limbs[i] != other.limbs[i]) {
                    return (limbs[i] & LIMB_MASK) < (other.limbs[i] & LIMB_MASK) ? -1 : 1;
                }
            }
            return 0;
        }

        /** The other is not above this one. */
        void subtract(Natural other) {
            long borrow = 0;
            for (int i = 0; i < size; i++) {
                long taken = i < other.size ? other.limbs[i] & LIMB_MASK : 0;
                long left = (limbs[i] & LIMB_MASK) - taken + borrow;
                limbs[i] = (int) left;
                borrow = left >> 32;
            }
            trim();
        }

        /** The factor and the addend are 0 or more. */
        void multiplyAdd(int factor, int addend) {
            long carry = addend;
            for (int i = 0; i < size; i++) {
                long product = (limbs[i] & LIMB_MASK) * factor + carry;
                limbs[i] = (int) product;
                carry = product >>> 32;
            }
            if (carry != 0 && size < LIMBS) {
                limbs[size] = (int) carry;
                size++;
            }
        }

        void multiplyFives(int count) {
            int left = count;
            for (; left >= FIVES_IN_CHUNK; left -= FIVES_IN_CHUNK) {
                multiplyAdd(CHUNK_OF_FIVES, 0);
            }
            for (; left > 0; left--) {
                multiplyAdd(5, 0);
            }
        }

        void multiplyTens(int count) {
            multiplyFives(count);
            shiftLeft(count);
        }

        /** Divides by the divisor, which is above 0, and answers the remainder. */
        int divideSmall(int divisor) {
            if (divisor <= 0) {
                return 0;
            }
            long rest = 0;
            for (int i = size - 1; i >= 0; i--) {
                long part = rest << 32 | limbs[i] & LIMB_MASK;
                limbs[i] = (int) (part / divisor);
                rest = part % divisor;
            }
            trim();
            return (int) rest;
        }

        /** Nothing is done for a count of 0 or less. */
        void shiftLeft(int count) {
            int words = count >> 5;
            int rest = count & 31;
            if (count <= 0 || size == 0 || words >= LIMBS - size) {
                return;
            }
            int low = 0;
            for (int i = size - 1; i >= 0; i--) {
                long wide = (limbs[i] & LIMB_MASK) << rest;
                limbs[i + words + 1] = low | (int) (wide >>> 32);
                low = (int) wide;
            }
            limbs[words] = low;
            for (int i = 0; i < words; i++) {
                limbs[i] = 0;
            }
            size += words + 1;
            trim();
        }

        /** Nothing is done for a count of 0 or less. */
        void shiftRight(int count) {
            int words = count >> 5;
            int rest = count & 31;
            if (count <= 0) {
                return;
            }
            int newSize = Math.max(size - words, 0);
            for (int i = 0; i < newSize; i++) {
                long high = i + words + 1 < size ? limbs[i + words + 1] & LIMB_MASK : 0;
                long wide = high << 32 | limbs[i + words] & LIMB_MASK;
                limbs[i] = (int) (wide >>> rest);
            }
            size = newSize;
            trim();
        }

        /** Divides by an odd factor of this number: from the last limb up, as there is no remainder. */
        void divideByOddFactor(Natural factor) {
            int inverse = inverseOf(factor.limbs[0]);
            for (int i = 0; i < size; i++) {
                int quotient = limbs[i] * inverse;
                subtractProduct(factor, quotient & LIMB_MASK, i);
                limbs[i] = quotient;
            }
            trim();
        }

        /** The inverse of an odd number modulo 2^32: it is right in 3 bits first, and each turn doubles them. */
        private static int inverseOf(int odd) {
            int inverse = odd;
            for (int i = 0; i < 4; i++) {
                inverse *= 2 - odd * inverse;
            }
            return inverse;
        }

        private void subtractProduct(Natural factor, long times, int from) {
            long carry = 0;
            for (int i = from; i < size && (i - from < factor.size || carry != 0); i++) {
                long limb = i - from < factor.size ? factor.limbs[i - from] & LIMB_MASK : 0;
                long product = limb * times + carry;
                long left = (limbs[i] & LIMB_MASK) - (product & LIMB_MASK);
                limbs[i] = (int) left;
                carry = (product >>> 32) + (left < 0 ? 1 : 0);
            }
        }

        private void trim() {
            while (size > 0 && limbs[size - 1] == 0) {
                size--;
            }
        }
    }
}
