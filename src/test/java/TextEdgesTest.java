import java.util.Map;
import java.util.function.Consumer;

/** The sentences about boundaries in promises 1 to 4, 15 and 16: a new object, type, clear, read, out and back. */
public final class TextEdgesTest {
    private static final Edges EDGES = new Edges("TextEdgesTest");
    private static final String NO_NUMBER = "0 0 -1 0 -1 -1";
    private static final int LEAST = Integer.MIN_VALUE;
    private static final int GREATEST = Integer.MAX_VALUE;

    public static void main(String[] args) {
        newObjectIsEmpty();
        newObjectsShareNothing();
        typeAnswersTheLength();
        typeRefusesWrongCodes();
        typeRefusesTheCharacterAfter400();
        refusedCodesTakeNoPlace();
        clearEmptiesTheText();
        shorterTexts();
        clearLeavesAllElse();
        readAnswersTheKind();
        readMakesNone();
        readLeavesTextAndOutput();
        outBeforeAndBehindTheOutput();
        outOfAShorterOutput();
        outOfTheLongestOutputs();
        backOfAnEmptyOutput();
        backOfAtMost400();
        backRefusesMoreThan400();
        backLeavesAllElse();
        EDGES.end();
    }

    private static Consumer<Subject> typing(String text) {
        return x -> x.typeAll(text);
    }

    private static void newObjectIsEmpty() {
        EDGES.sentence("No number, text and output empty.");
        EDGES.due("number", new Subject().number(), NO_NUMBER);
        EDGES.due("exact()", new Subject().exact(), 0);
        EDGES.due("inexact()", new Subject().inexact(), 0);
        EDGES.due("write(10)", new Subject().write(10), -1);
        EDGES.due("out(0)", new Subject().out(0), -1);
        EDGES.due("out(-1)", new Subject().out(-1), -1);
        EDGES.due("type('1')", new Subject().type('1'), 1);
        EDGES.due("read()", new Subject().read(), 0);
        EDGES.due("back()", new Subject().back(), 1);
        State state = State.after(x -> { });
        EDGES.due("output", state.output(), "");
        EDGES.due("text after clear()", State.after(Subject::clear).text(), state.text());
    }

    private static void newObjectsShareNothing() {
        EDGES.sentence("No number, text and output empty.");
        Subject used = Subject.having("-1.5");
        used.write(10);
        Subject other = new Subject();
        EDGES.due("kind() beside a used object", other.kind(), 0);
        EDGES.due("out(0) beside a used object", other.out(0), -1);
        EDGES.due("type('2') beside a used object", other.type('2'), 1);
        EDGES.due("type('5') of the used one", used.type('5'), 5);
        EDGES.due("units() of the used one", used.units(), 3L << 51);
    }

    private static void typeAnswersTheLength() {
        EDGES.sentence("Appends a character: the length of the text");
        Subject x = new Subject();
        for (int code = 0; code <= 127; code++) {
            EDGES.due("type(" + code + ")", x.type(code), code + 1);
        }
        EDGES.due("type behind back()", Subject.after(y -> {
            y.make(false, 1, 0);
            y.write(10);
            y.back();
        }).type('1'), 4);
        Subject read = new Subject();
        read.typeAll("12");
        read.read();
        EDGES.due("type behind read()", read.type('3'), 3);
        read.read();
        EDGES.due("write(10) of the longer text", read.written(10), "123");
    }

    private static void typeRefusesWrongCodes() {
        EDGES.sentence("-1, and none is, if the code is not 0 .. 127");
        // 304 and 65585 would be the digits 0 and 1 if only their last bits were taken.
        int[] wrong = {-1, 128, 129, 255, 256, 304, 65585, -128, -207, LEAST, LEAST + '1', GREATEST};
        for (int code : wrong) {
            EDGES.refusedEverywhere("type(" + code + ")", -1, x -> x.type(code));
        }
        EDGES.due("type(0)", new Subject().type(0), 1);
        EDGES.due("type(127)", new Subject().type(127), 1);
    }

    private static void typeRefusesTheCharacterAfter400() {
        EDGES.sentence("-1, and none is, if .. there are 400.");
        Subject x = new Subject();
        for (int i = 1; i <= 400; i++) {
            EDGES.due("type of character " + i, x.type('1'), i);
        }
        int[] codes = {'1', '/', 0, 127, -1, 128};
        for (int code : codes) {
            EDGES.due("type(" + code + ") behind 400", x.type(code), -1);
            EDGES.refused("400 characters", typing("7".repeat(400)), "type(" + code + ")", -1, y -> y.type(code));
        }
        EDGES.due("read() of 400 digits", x.read(), 1);
        EDGES.due("type behind 399", Subject.after(typing("7".repeat(399))).type('1'), 400);
    }

    private static void refusedCodesTakeNoPlace() {
        EDGES.sentence("-1, and none is");
        Subject x = Subject.after(typing("7".repeat(399)));
        EDGES.due("type(128) behind 399", x.type(128), -1);
        EDGES.due("type(-1) behind 399", x.type(-1), -1);
        EDGES.due("type('1') behind them", x.type('1'), 400);
        EDGES.due("type('1') once more", x.type('1'), -1);
        Subject y = Subject.after(typing("1"));
        y.type(304);
        y.type('5');
        y.read();
        EDGES.due("text around a refused code", y.written(10), "15");
    }

    private static void clearEmptiesTheText() {
        EDGES.sentence("The text is empty");
        String[] texts = {"", "1", "what", "7".repeat(399), "7".repeat(400)};
        for (String text : texts) {
            Subject x = Subject.after(typing(text));
            x.clear();
            EDGES.due("read() after clear() of " + text, x.read(), 0);
            EDGES.due("type after clear() of " + text, x.type('3'), 1);
            x.read();
            EDGES.due("number typed after clear() of " + text, x.written(10), "3");
        }
        Subject twice = Subject.after(typing("12"));
        twice.clear();
        twice.clear();
        EDGES.due("type after clear() twice", twice.type('3'), 1);
    }

    /** Each text is the beginning of a number that was the text before: what stood behind it is not read. */
    private static void shorterTexts() {
        EDGES.sentence("The text is empty");
        String[] longer = {"1e5", "1e-5", "1/2", "#x1", "#e1", "-1", ".5", "+inf.0", "-nan.0", "#x#e1", "10/20"};
        for (String text : longer) {
            for (int length = 0; length < text.length(); length++) {
                String shorter = text.substring(0, length);
                Subject x = Subject.having(text);
                x.retype(shorter);
                EDGES.due("read() of " + shorter + " after " + text, x.read(), Subject.having(shorter).read());
                EDGES.due("number of " + shorter + " after " + text, x.number(), Subject.having(shorter).number());
            }
            Subject back = Subject.having("#e1e-5");
            back.write(2);
            back.retype(text);
            EDGES.due("back() after " + text, back.back(), 1);
            EDGES.due("read() after back()", back.read(), 1);
            EDGES.due("number after back()", back.written(10), "1/11000011010100000");
        }
    }

    private static void clearLeavesAllElse() {
        EDGES.sentence("all else stays.");
        String empty = State.after(x -> { }).text();
        for (Map.Entry<String, Consumer<Subject>> state : State.all().entrySet()) {
            State before = State.after(state.getValue());
            State after = State.after(state.getValue().andThen(Subject::clear));
            EDGES.due("number after clear() with " + state.getKey(), after.number(), before.number());
            EDGES.due("output after clear() with " + state.getKey(), after.output(), before.output());
            EDGES.due("text after clear() with " + state.getKey(), after.text(), empty);
        }
    }

    private static void readAnswersTheKind() {
        EDGES.sentence("The number becomes the one that the text tells: 1 exact, 2 a double");
        String[] texts = {"0", "-1/2", "0.0", "-1e-9999", "1e9999", "-inf.0", "+nan.0"};
        long[] answers = {1, 1, 2, 2, 2, 2, 2};
        long[] kinds = {1, 1, 2, 2, 3, 3, 4};
        for (Map.Entry<String, Consumer<Subject>> state : State.all().entrySet()) {
            for (int i = 0; i < texts.length; i++) {
                Subject x = Subject.after(state.getValue());
                x.retype(texts[i]);
                EDGES.due("read() of " + texts[i] + " after " + state.getKey(), x.read(), answers[i]);
                EDGES.due("kind() of " + texts[i] + " after " + state.getKey(), x.kind(), kinds[i]);
            }
        }
    }

    private static void readMakesNone() {
        EDGES.sentence("0, and it becomes none, if the text tells none.");
        String[] texts = {"", "what", "1/0", "#e1e1234", "-", "7".repeat(399) + "x"};
        for (Map.Entry<String, Consumer<Subject>> state : State.all().entrySet()) {
            for (String text : texts) {
                Subject x = Subject.after(state.getValue());
                x.retype(text);
                EDGES.due("read() of " + text + " after " + state.getKey(), x.read(), 0);
                EDGES.due("number of " + text + " after " + state.getKey(), x.number(), NO_NUMBER);
                EDGES.due("exact() of none after " + state.getKey(), x.exact(), 0);
                EDGES.due("inexact() of none after " + state.getKey(), x.inexact(), 0);
                EDGES.due("write(10) of none after " + state.getKey(), x.write(10), -1);
            }
        }
    }

    private static void readLeavesTextAndOutput() {
        EDGES.sentence("The number becomes the one that the text tells");
        String[] texts = {"", "what", "12", "-1.5e3", "+nan.0", "7".repeat(400)};
        for (String text : texts) {
            Consumer<Subject> run = x -> {
                x.make(true, 3, -1);
                x.write(10);
                x.retype(text);
            };
            State before = State.after(run);
            State after = State.after(run.andThen(Subject::read));
            EDGES.due("text after read() of " + text, after.text(), before.text());
            EDGES.due("output after read() of " + text, after.output(), "-1.5");
        }
    }

    private static void outBeforeAndBehindTheOutput() {
        EDGES.sentence("The code of character i of the output; -1 if there is none.");
        Subject x = Subject.having("-22/7");
        x.write(10);
        int[] places = {LEAST, -1, 0, 1, 4, 5, 6, 255, 256, 65536, GREATEST};
        long[] codes = {-1, -1, '-', '2', '7', -1, -1, -1, -1, -1, -1};
        for (int i = 0; i < places.length; i++) {
            EDGES.due("out(" + places[i] + ") of -22/7", x.out(places[i]), codes[i]);
        }
        int[] wrong = {LEAST, LEAST + 1, -1, 5, 8193, 8194, 8195, GREATEST};
        for (int i : wrong) {
            EDGES.refusedEverywhere("out(" + i + ")", -1, y -> y.out(i));
        }
    }

    private static void outOfAShorterOutput() {
        EDGES.sentence("The code of character i of the output; -1 if there is none.");
        Subject x = Subject.having("-22/7");
        x.write(10);
        x.make(false, 1, 0);
        EDGES.due("output until the next write", x.output(), "-22/7");
        EDGES.due("write(10) of 1.0", x.write(10), 3);
        EDGES.due("out(2) of 1.0", x.out(2), '0');
        EDGES.due("out(3), where the longer one had a character", x.out(3), -1);
        EDGES.due("out(4), where the longer one had a character", x.out(4), -1);
    }

    /** The longest integer, and the longest denominator behind a numerator of as many digits as there is place for. */
    private static void outOfTheLongestOutputs() {
        EDGES.sentence("an OUTPUT of characters");
        String integer = "#e-1e1233";
        String fraction = "#e-" + "7".repeat(390) + "e-1233";
        String[] texts = {integer, fraction};
        for (String text : texts) {
            Subject x = Subject.having(text);
            int length = (int) x.write(2);
            long bits = x.bits(false) + (text.equals(fraction) ? x.bits(true) + 1 : 0);
            EDGES.due("write(2) of " + text, length, bits + 1);
            EDGES.due("first character of " + text, x.out(0), '-');
            EDGES.due("last character of " + text, x.out(length - 1), '0');
            EDGES.due("character behind the last of " + text, x.out(length), -1);
            if (text.equals(fraction)) {
                EDGES.due("stroke of " + text, x.out((int) x.bits(false) + 1), '/');
            }
        }
    }

    private static void backOfAnEmptyOutput() {
        EDGES.sentence("The text becomes the output");
        String[] texts = {"", "12", "7".repeat(400)};
        for (String text : texts) {
            Subject x = Subject.after(typing(text));
            EDGES.due("back() of an empty output, text " + text, x.back(), 1);
            EDGES.due("read() of the empty text", x.read(), 0);
            EDGES.due("type behind the empty text", x.type('1'), 1);
        }
    }

    private static void backOfAtMost400() {
        EDGES.sentence("if that has at most 400 characters: true");
        String[] texts = {"#e1e398", "#e1e399", "#e-1e398", "#e1e-397"};
        int[] lengths = {399, 400, 400, 400};
        String[] due = {"1" + "0".repeat(398), "1" + "0".repeat(399), "-1" + "0".repeat(398), "1/1" + "0".repeat(397)};
        for (int i = 0; i < due.length; i++) {
            Subject x = Subject.having(texts[i]);
            EDGES.due("write(10) of " + texts[i], x.write(10), lengths[i]);
            EDGES.due("back() of " + texts[i], x.back(), 1);
            x.make(false, 1, 0);
            EDGES.due("read() after back() of " + texts[i], x.read(), 1);
            x.write(10);
            EDGES.due("number after back() of " + texts[i], x.output(), due[i]);
            EDGES.due("type behind back() of " + texts[i], x.type('0'), lengths[i] == 400 ? -1 : 400);
        }
    }

    private static void backRefusesMoreThan400() {
        EDGES.sentence("The text becomes the output, if that has at most 400 characters: true; else false.");
        String[] texts = {"#e1e400", "#e-1e399", "#e1e-398", "#e-1e1233"};
        int[] lengths = {401, 401, 401, 1235};
        for (int i = 0; i < texts.length; i++) {
            int at = i;
            Consumer<Subject> run = x -> {
                x.retype(texts[at]);
                x.read();
                x.write(10);
                x.retype("61.25");
            };
            EDGES.due("write(10) of " + texts[i], State.after(run).output().length(), lengths[i]);
            EDGES.refused(lengths[i] + " characters of output", run, "back()", 0, Subject::back);
        }
        Consumer<Subject> full = x -> {
            x.make(false, 1, 450);
            x.exact();
            x.write(2);
            x.typeAll("7".repeat(400));
        };
        EDGES.refused("451 characters of output and 400 of text", full, "back()", 0, Subject::back);
        Consumer<Subject> emptyText = x -> {
            x.make(false, 1, 400);
            x.exact();
            x.write(2);
        };
        EDGES.refused("401 characters of output and no text", emptyText, "back()", 0, Subject::back);
    }

    private static void backLeavesAllElse() {
        EDGES.sentence("The text becomes the output");
        for (Map.Entry<String, Consumer<Subject>> state : State.all().entrySet()) {
            State before = State.after(state.getValue());
            Consumer<Subject> run = state.getValue().andThen(Subject::back);
            State after = State.after(run);
            EDGES.due("back() with " + state.getKey(), Subject.after(state.getValue()).back(), 1);
            EDGES.due("number after back() with " + state.getKey(), after.number(), before.number());
            EDGES.due("output after back() with " + state.getKey(), after.output(), before.output());
            EDGES.due("text after back() with " + state.getKey(), after.text(), State.after(typing(before.output())).text());
        }
        Subject x = Subject.having("5");
        x.write(10);
        x.back();
        x.type('0');
        EDGES.due("output after type behind back()", x.output(), "5");
    }
}
