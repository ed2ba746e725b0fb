import java.util.LinkedHashMap;
import java.util.Map;
import java.util.function.Consumer;

/**
 * All that can be seen of the object that a run of calls leaves. Every look is at a new object after the same run, so that no
 * look changes what the next one sees and none goes beyond 512 calls.
 */
record State(String number, String output, String text) {
    static State after(Consumer<Subject> run) {
        String number = Subject.after(run).number() + ", in base 10 " + written(run, 10) + ", in base 16 " + written(run, 16);
        Subject longer = Subject.after(run);
        String length = longer.type('0') + " with one more";
        Consumer<Subject> reading = run.andThen(Subject::read);
        String told = Subject.after(reading).number() + " " + written(reading, 10);
        return new State(number, Subject.after(run).output(), length + ", reads " + told);
    }

    private static String written(Consumer<Subject> run, int base) {
        long length = Subject.after(run).write(base);
        return length == -1 ? "none" : length + " " + Subject.after(run.andThen(x -> x.write(base))).output();
    }

    /** A run for each kind of number there is; the text, the output and the number tell different numbers in each. */
    static Map<String, Consumer<Subject>> all() {
        Map<String, Consumer<Subject>> all = new LinkedHashMap<>();
        all.put("a new object", x -> { });
        all.put("no number", x -> leave(x, "#zz"));
        all.put("the integer 0", x -> leave(x, "0"));
        all.put("an integer", x -> leave(x, "-340282366920938463463374607431768211457"));
        all.put("a fraction", x -> leave(x, "-22/7"));
        all.put("a finite double", x -> leave(x, "-1.5e-3"));
        all.put("the double -0.0", x -> leave(x, "-0.0"));
        all.put("the least double", x -> leave(x, "5e-324"));
        all.put("+inf.0", x -> leave(x, "+inf.0"));
        all.put("-inf.0", x -> leave(x, "-inf.0"));
        all.put("a NaN", x -> leave(x, "-nan.0"));
        return all;
    }

    private static void leave(Subject x, String number) {
        x.retype("-77/3");
        x.read();
        x.write(10);
        x.retype(number);
        x.read();
        x.retype("61.25");
    }
}
