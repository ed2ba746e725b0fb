import java.util.Map;
import java.util.function.Consumer;
import java.util.function.ToLongFunction;

/** What the tests of the document's boundaries share: each check is told with the sentence that it belongs to. */
final class Edges {
    private final Check check;
    private String sentence = "";

    Edges(String name) {
        check = new Check(name);
    }

    /** The checks that follow belong to this sentence of the document. */
    void sentence(String words) {
        sentence = words;
    }

    void due(String call, long got, long want) {
        check.due("\"" + sentence + "\": " + call, got, want);
    }

    void due(String call, String got, String want) {
        check.due("\"" + sentence + "\": " + call, got, want);
    }

    void end() {
        check.end();
    }

    /** The call is answered so in every state, and nothing is done. */
    void refusedEverywhere(String call, long answer, ToLongFunction<Subject> made) {
        for (Map.Entry<String, Consumer<Subject>> state : State.all().entrySet()) {
            refused(state.getKey(), state.getValue(), call, answer, made);
        }
    }

    /** The call is answered so after the run, and nothing is done. */
    void refused(String name, Consumer<Subject> run, String call, long answer, ToLongFunction<Subject> made) {
        due(call + " with " + name, made.applyAsLong(Subject.after(run)), answer);
        State before = State.after(run);
        State after = State.after(run.andThen(made::applyAsLong));
        due("number after " + call + " with " + name, after.number(), before.number());
        due("output after " + call + " with " + name, after.output(), before.output());
        due("text after " + call + " with " + name, after.text(), before.text());
    }

    /** The text is read as the exact number that is written so in base 10. */
    void exact(String text, String written) {
        Subject x = Subject.having(text);
        due("kind() of " + text, x.kind(), 1);
        due("negative() of " + text, x.negative(), written.startsWith("-") ? 1 : 0);
        due("read() of " + text, x.read(), 1);
        due("write(10) of " + text, x.written(10), written);
    }

    /** The text is read as this double. */
    void inexact(String text, double value) {
        Subject x = Subject.having(text);
        due("number of " + text, x.number(), numberOf(value));
        due("read() of " + text, x.read(), 2);
    }

    /** The text tells no number: the number becomes none, the text and the output stay. */
    void none(String text) {
        Consumer<Subject> run = x -> {
            x.make(true, 5, 0);
            x.write(10);
            x.retype(text);
        };
        Subject x = Subject.after(run);
        due("read() of " + text, x.read(), 0);
        due("number of " + text, x.number(), "0 0 -1 0 -1 -1");
        due("output after read() of " + text, x.output(), "-5.0");
        due("text after read() of " + text, x.type('0'), text.length() == 400 ? -1 : text.length() + 1);
    }

    /** The answers of kind, negative, units, place and both bits for a double. */
    static String numberOf(double value) {
        String[] told = Check.told(value).split(" ");
        return told[0] + " " + (told[1].equals("true") ? 1 : 0) + " " + told[2] + " " + told[3] + " -1 -1";
    }
}
