import java.util.function.Consumer;

/** An object whose calls are counted: the document promises nothing after the 512th. A boolean is answered as 1 or 0. */
final class Subject {
    static final int MOST_CALLS = 512;

    private final DoubleTexts object = new DoubleTexts();
    private int calls = 0;

    /** A new object, after the run of calls. */
    static Subject after(Consumer<Subject> run) {
        Subject made = new Subject();
        run.accept(made);
        return made;
    }

    /** A new object that has read the text. */
    static Subject having(String text) {
        Subject made = new Subject();
        made.retype(text);
        made.read();
        return made;
    }

    private DoubleTexts counted() {
        calls++;
        if (calls > MOST_CALLS) {
            throw new IllegalStateException("the test makes more than " + MOST_CALLS + " calls of one object");
        }
        return object;
    }

    int calls() {
        return calls;
    }

    long type(int code) {
        return counted().type(code);
    }

    void clear() {
        counted().clear();
    }

    long read() {
        return counted().read();
    }

    long make(boolean negative, long units, int place) {
        return counted().make(negative, units, place) ? 1 : 0;
    }

    long divide(long n, long d) {
        return counted().divide(n, d) ? 1 : 0;
    }

    long exact() {
        return counted().exact() ? 1 : 0;
    }

    long inexact() {
        return counted().inexact() ? 1 : 0;
    }

    long kind() {
        return counted().kind();
    }

    long negative() {
        return counted().negative() ? 1 : 0;
    }

    long units() {
        return counted().units();
    }

    long place() {
        return counted().place();
    }

    long bits(boolean denominator) {
        return counted().bits(denominator);
    }

    long write(int base) {
        return counted().write(base);
    }

    long out(int i) {
        return counted().out(i);
    }

    long back() {
        return counted().back() ? 1 : 0;
    }

    /** The text becomes this one. */
    void retype(String text) {
        clear();
        typeAll(text);
    }

    void typeAll(String text) {
        for (int i = 0; i < text.length(); i++) {
            type(text.charAt(i));
        }
    }

    /** The answers of kind, negative, units, place and both bits. */
    String number() {
        return kind() + " " + negative() + " " + units() + " " + place() + " " + bits(false) + " " + bits(true);
    }

    /** The output, which is short. */
    String output() {
        StringBuilder all = new StringBuilder();
        for (long code = out(0); code != -1; code = out(all.length())) {
            all.append((char) code);
        }
        return all.toString();
    }

    /** The output after write, or -1 where that is refused. */
    String written(int base) {
        return write(base) == -1 ? "-1" : output();
    }
}
