/** What the tests share: answers compared with what is due. */
final class Check {
    private static final int SHOWN = 50;

    private final String name;
    private int wrong = 0;
    private int made = 0;

    Check(String name) {
        this.name = name;
    }

    void due(String call, long got, long want) {
        due(call, Long.toString(got), Long.toString(want));
    }

    /** A boolean that a Subject answers as 1 or 0. */
    void due(String call, long got, boolean want) {
        due(call, got, want ? 1 : 0);
    }

    void due(String call, boolean got, boolean want) {
        due(call, Boolean.toString(got), Boolean.toString(want));
    }

    void due(String call, String got, String want) {
        made++;
        if (!got.equals(want)) {
            wrong++;
            if (wrong <= SHOWN) {
                System.out.println(call + " answered " + got + ", due is " + want);
            }
        }
    }

    /** Ends the test, with exit code 1 if an answer was wrong or none was looked at. */
    void end() {
        System.out.println(name + ": " + made + " answers, " + wrong + " not as due");
        if (wrong != 0 || made == 0) {
            System.exit(1);
        }
    }

    /** The number as the answers of kind, negative, units and place tell it. */
    static String told(Subject x) {
        return x.kind() + " " + (x.negative() == 1) + " " + x.units() + " " + x.place();
    }

    /** The same for a double of Java. */
    static String told(double value) {
        long bits = Double.doubleToLongBits(value);
        boolean minus = bits < 0;
        if (value != value) {
            return "4 false -1 0";
        }
        if (Double.isInfinite(value)) {
            return "3 " + minus + " -1 0";
        }
        int exponent = (int) (bits >> 52 & 2047);
        long fraction = bits & (1L << 52) - 1;
        long units = exponent == 0 ? fraction : fraction | 1L << 52;
        return "2 " + minus + " " + units + " " + (Math.max(exponent, 1) - 1075);
    }
}
