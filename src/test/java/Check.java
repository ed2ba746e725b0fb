/** What the tests share: answers compared with what is due, texts typed and outputs taken. */
final class Check {
    private static final int SHOWN = 50;

    private final String name;
    private int wrong = 0;
    private int made = 0;

    Check(String name) {
        this.name = name;
    }

    void due(String call, long got, long want) {
        due(call, Long.toString(got), Long.toString(want));
    }

    void due(String call, boolean got, boolean want) {
        due(call, Boolean.toString(got), Boolean.toString(want));
    }

    void due(String call, String got, String want) {
        made++;
        if (!got.equals(want)) {
            wrong++;
            if (wrong <= SHOWN) {
                System.out.println(call + " answered " + got + ", due is " + want);
            }
        }
    }

    /** Ends the test, with exit code 1 if an answer was wrong or none was looked at. */
    void end() {
        System.out.println(name + ": " + made + " answers, " + wrong + " not as due");
        if (wrong != 0 || made == 0) {
            System.exit(1);
        }
    }

    static DoubleTexts typed(String text) {
        DoubleTexts object = new DoubleTexts();
        retype(object, text);
        return object;
    }

    static void retype(DoubleTexts object, String text) {
        object.clear();
        for (int i = 0; i < text.length(); i++) {
            object.type(text.charAt(i));
        }
    }

    /** An object that has read the text. */
    static DoubleTexts having(String text) {
        DoubleTexts object = typed(text);
        object.read();
        return object;
    }

    /** The output, up to the first character that is none. */
    static String output(DoubleTexts object) {
        StringBuilder all = new StringBuilder();
        for (int i = 0; object.out(i) != -1; i++) {
            all.append((char) object.out(i));
        }
        return all.toString();
    }

    static String written(DoubleTexts object, int base) {
        int length = object.write(base);
        return length == -1 ? "-1" : output(object);
    }

    /** The number as the answers of kind, negative, units and place tell it. */
    static String told(DoubleTexts object) {
        return object.kind() + " " + object.negative() + " " + object.units() + " " + object.place();
    }

    /** The same for a double of Java. */
    static String told(double value) {
        long bits = Double.doubleToLongBits(value);
        boolean minus = bits < 0;
        if (value != value) {
            return "4 false -1 0";
        }
        if (Double.isInfinite(value)) {
            return "3 " + minus + " -1 0";
        }
        int exponent = (int) (bits >> 52 & 2047);
        long fraction = bits & (1L << 52) - 1;
        long units = exponent == 0 ? fraction : fraction | 1L << 52;
        return "2 " + minus + " " + units + " " + (Math.max(exponent, 1) - 1075);
    }
}
