import java.util.ArrayList;
import java.util.List;
import java.util.function.Consumer;
import java.util.function.ToLongFunction;

/** An object whose calls are counted: the document promises nothing after the 512th. A boolean is answered as 1 or 0. */
final class Subject {
    static final int MOST_CALLS = 512;

    /* Above any output there is: the look ends, even if the class has lost its end. */
    private static final int LONGEST_LOOK = 10000;

    private final DoubleTexts object = new DoubleTexts();
    private final List<ToLongFunction<DoubleTexts>> made = new ArrayList<>();

    /** A new object, after the run of calls. */
    static Subject after(Consumer<Subject> run) {
        Subject made = new Subject();
        run.accept(made);
        return made;
    }

    /** A new object that has the text. */
    static Subject typed(String text) {
        return after(x -> x.typeAll(text));
    }

    /** A new object that has read the text. */
    static Subject having(String text) {
        return after(x -> {
            x.retype(text);
            x.read();
        });
    }

    private long call(ToLongFunction<DoubleTexts> call) {
        if (made.size() == MOST_CALLS) {
            throw new IllegalStateException("the test makes more than " + MOST_CALLS + " calls of one object");
        }
        made.add(call);
        return call.applyAsLong(object);
    }

    int calls() {
        return made.size();
    }

    /** A new object, after the same calls. */
    private Subject again() {
        return after(twin -> made.forEach(twin::call));
    }

    long type(int code) {
        return call(x -> x.type(code));
    }

    void clear() {
        call(x -> {
            x.clear();
            return 0;
        });
    }

    long read() {
        return call(x -> x.read());
    }

    long make(boolean negative, long units, int place) {
        return call(x -> x.make(negative, units, place) ? 1 : 0);
    }

    long divide(long n, long d) {
        return call(x -> x.divide(n, d) ? 1 : 0);
    }

    long exact() {
        return call(x -> x.exact() ? 1 : 0);
    }

    long inexact() {
        return call(x -> x.inexact() ? 1 : 0);
    }

    long kind() {
        return call(x -> x.kind());
    }

    long negative() {
        return call(x -> x.negative() ? 1 : 0);
    }

    long units() {
        return call(x -> x.units());
    }

    long place() {
        return call(x -> x.place());
    }

    long bits(boolean denominator) {
        return call(x -> x.bits(denominator));
    }

    long write(int base) {
        return call(x -> x.write(base));
    }

    long out(int i) {
        return call(x -> x.out(i));
    }

    long back() {
        return call(x -> x.back() ? 1 : 0);
    }

    /** The text becomes this one. */
    void retype(String text) {
        clear();
        typeAll(text);
    }

    void typeAll(String text) {
        for (int i = 0; i < text.length(); i++) {
            type(text.charAt(i));
        }
    }

    /** The answers of kind, negative, units, place and both bits. */
    String number() {
        return kind() + " " + negative() + " " + units() + " " + place() + " " + bits(false) + " " + bits(true);
    }

    /** The output, up to the first character that is none, seen at objects after the same calls: a long one at several. */
    String output() {
        StringBuilder all = new StringBuilder();
        Subject seen = again();
        for (long code = seen.out(0); code != -1 && all.length() < LONGEST_LOOK; code = seen.out(all.length())) {
            all.append((char) code);
            if (seen.calls() == MOST_CALLS) {
                seen = again();
            }
        }
        return all.toString();
    }

    /** The output after write, or -1 where that is refused. */
    String written(int base) {
        return write(base) == -1 ? "-1" : output();
    }
}
