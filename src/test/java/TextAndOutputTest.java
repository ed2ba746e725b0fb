/** Promises 1, 2, 3, 15 and 16: a new object, type, clear, out and back. */
public final class TextAndOutputTest {
    private static final Check CHECK = new Check("TextAndOutputTest");

    public static void main(String[] args) {
        newObject();
        type();
        clear();
        out();
        back();
        backOfLongOutput();
        CHECK.end();
    }

    private static void newObject() {
        Subject x = new Subject();
        CHECK.due("new: number", Check.told(x), "0 false -1 0");
        CHECK.due("new: bits(false)", x.bits(false), -1);
        CHECK.due("new: bits(true)", x.bits(true), -1);
        CHECK.due("new: exact()", x.exact(), false);
        CHECK.due("new: inexact()", x.inexact(), false);
        CHECK.due("new: write(10)", x.write(10), -1);
        CHECK.due("new: out(0)", x.out(0), -1);
        CHECK.due("new: back()", x.back(), true);
        CHECK.due("new: read()", x.read(), 0);
        CHECK.due("new: type(49)", x.type(49), 1);
    }

    private static void type() {
        Subject x = new Subject();
        int[] wrong = {-1, 128, 255, 256 + '1', Integer.MIN_VALUE, Integer.MAX_VALUE};
        for (int code : wrong) {
            CHECK.due("type(" + code + ")", x.type(code), -1);
        }
        CHECK.due("type(0)", x.type(0), 1);
        CHECK.due("type(127)", x.type(127), 2);
        x.clear();
        for (int i = 1; i <= 400; i++) {
            CHECK.due("type of character " + i, x.type('1'), i);
        }
        CHECK.due("type of character 401", x.type('/'), -1);
        CHECK.due("type of character 401 again", x.type('1'), -1);
        CHECK.due("read() of 400 digits", x.read(), 1);
        CHECK.due("write(10) of 400 digits", x.written(10), "1".repeat(400));
    }

    private static void clear() {
        Subject x = Subject.having("-12");
        x.write(10);
        x.clear();
        CHECK.due("output after clear()", x.output(), "-12");
        CHECK.due("number after clear()", Check.told(x), "1 true -1 0");
        CHECK.due("type after clear()", x.type('7'), 1);
        CHECK.due("read() after clear()", x.read(), 1);
        CHECK.due("write(10)", x.written(10), "7");
    }

    private static void out() {
        Subject x = Subject.having("-1/3");
        x.write(10);
        CHECK.due("out(0)", x.out(0), '-');
        CHECK.due("out(3)", x.out(3), '3');
        int[] wrong = {4, 5, -1, 9000, Integer.MIN_VALUE, Integer.MAX_VALUE};
        for (int i : wrong) {
            CHECK.due("out(" + i + ")", x.out(i), -1);
        }
        x.retype("5");
        x.read();
        CHECK.due("output stands until write", x.output(), "-1/3");
        x.write(10);
        CHECK.due("a shorter output", x.output(), "5");
        CHECK.due("write(1)", x.write(1), -1);
        x.retype("what");
        x.read();
        CHECK.due("write(10) of none", x.write(10), -1);
        CHECK.due("output after write refused", x.output(), "5");
    }

    private static void back() {
        Subject x = Subject.having("#i1/3");
        x.write(10);
        CHECK.due("back()", x.back(), true);
        CHECK.due("length after back()", x.type('1'), 19);
        CHECK.due("output after back()", x.output(), "0.3333333333333333");
        CHECK.due("read() after back()", x.read(), 2);
        CHECK.due("number after back()", Check.told(x), Check.told(0.33333333333333331));
        Subject empty = Subject.typed("12");
        CHECK.due("back() of no output", empty.back(), true);
        CHECK.due("read() of no text", empty.read(), 0);
    }

    private static void backOfLongOutput() {
        Subject x = Subject.having("1" + "0".repeat(399));
        CHECK.due("write(10) of 10^399", x.write(10), 400);
        x.retype("5");
        CHECK.due("back() of 400 characters", x.back(), true);
        CHECK.due("type behind 400 characters", x.type('1'), -1);
        CHECK.due("read() of them", x.read(), 1);
        CHECK.due("bits of them", x.bits(false), 1326);
        Subject y = Subject.having("-1" + "0".repeat(398));
        CHECK.due("write(9) of -10^398", y.write(9), 419);
        CHECK.due("back() of 419 characters", y.back(), false);
        CHECK.due("text after back() refused", y.type('0'), -1);
        CHECK.due("read() of the text", y.read(), 1);
        CHECK.due("its bits", y.bits(false), 1323);
        Subject z = Subject.having("#e1e399");
        z.write(10);
        CHECK.due("back() of 10^399", z.back(), true);
        z.retype("#e1e400");
        z.read();
        CHECK.due("write(10) of 10^400", z.write(10), 401);
        CHECK.due("back() of 401 characters", z.back(), false);
    }
}
