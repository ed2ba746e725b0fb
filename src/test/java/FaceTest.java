import java.io.IOException;
import java.lang.management.ManagementFactory;
import java.lang.reflect.Member;
import java.lang.reflect.Method;
import java.lang.reflect.Modifier;
import java.nio.file.Files;
import java.nio.file.Path;
import java.util.Set;
import java.util.TreeSet;
import java.util.regex.Pattern;

/** The public face of the document, the rules of LANGUAGE.md that can be looked up, and the room that calls take. */
public final class FaceTest {
    private static final Check CHECK = new Check("FaceTest");
    private static final String SOURCE = "src/main/java/DoubleTexts.java";
    private static final String[] FACE = {"int type(int)", "void clear()", "int read()", "boolean make(boolean,long,int)",
        "boolean divide(long,long)", "boolean exact()", "boolean inexact()", "int kind()", "boolean negative()", "long units()",
        "int place()", "int bits(boolean)", "int write(int)", "int out(int)", "boolean back()"};
    private static final String[] RULED_OUT = {"throw", "throws", "try", "catch", "synchronized", "assert", "import", "package",
        "double", "float", "protected", "System\\.(?!arraycopy)\\w+", "->", "::", "\\w+Exact\\(", "Object", "@\\w+"};

    public static void main(String[] args) throws IOException {
        face();
        source();
        room();
        CHECK.end();
    }

    private static void face() {
        Set<String> found = new TreeSet<>();
        Set<String> open = new TreeSet<>();
        for (Method method : DoubleTexts.class.getDeclaredMethods()) {
            if (!Modifier.isPrivate(method.getModifiers())) {
                found.add(method.toString().replace("public ", "").replace("DoubleTexts.", ""));
                open.add(method.getName());
            }
        }
        CHECK.due("methods", found.toString(), new TreeSet<>(Set.of(FACE)).toString());
        CHECK.due("class", Modifier.toString(DoubleTexts.class.getModifiers()), "public final");
        CHECK.due("constructors", DoubleTexts.class.getDeclaredConstructors()[0].toString(), "public DoubleTexts()");
        CHECK.due("count of constructors", DoubleTexts.class.getDeclaredConstructors().length, 1);
        for (Member field : DoubleTexts.class.getDeclaredFields()) {
            CHECK.due("field " + field.getName(), Modifier.isPrivate(field.getModifiers()), true);
        }
        for (Class<?> inside : DoubleTexts.class.getDeclaredClasses()) {
            CHECK.due(inside.getName() + " is static", Modifier.isStatic(inside.getModifiers()), true);
            for (Method method : inside.getDeclaredMethods()) {
                CHECK.due(inside.getName() + "." + method.getName() + " bears a public name", open.contains(method.getName()), false);
            }
        }
    }

    private static void source() throws IOException {
        String code = Files.readString(Path.of(SOURCE)).replaceAll("(?s)/\\*.*?\\*/|//[^\n]*", "");
        for (String word : RULED_OUT) {
            String bounded = Character.isLetter(word.charAt(0)) ? "\\b" + word + (word.endsWith("(") ? "" : "\\b") : word;
            CHECK.due("source has " + word, Pattern.compile(bounded).matcher(code).find(), false);
        }
    }

    /** No call makes an object, and 512 objects stay below the 7.3 million elements of the room. */
    private static void room() {
        com.sun.management.ThreadMXBean thread = (com.sun.management.ThreadMXBean) ManagementFactory.getThreadMXBean();
        DoubleTexts x = new DoubleTexts();
        useAll(x);
        long before = thread.getCurrentThreadAllocatedBytes();
        useAll(x);
        long ofCalls = thread.getCurrentThreadAllocatedBytes() - before;
        CHECK.due("calls make objects, bytes " + ofCalls, ofCalls > 512, false);
        before = thread.getCurrentThreadAllocatedBytes();
        new DoubleTexts();
        long ofObject = thread.getCurrentThreadAllocatedBytes() - before;
        // A limb has four bytes and a character one, so the bytes are above the count of elements.
        CHECK.due("an object is great, bytes " + ofObject, ofObject > 20000, false);
    }

    private static void useAll(DoubleTexts x) {
        String[] texts = {"#e-1e-1233", "#i123/456", "123456/7890", "1.5e-300", "#x+FF", "-inf.0", "+nan.0", "none", "0.1"};
        for (String text : texts) {
            x.clear();
            for (int i = 0; i < text.length(); i++) {
                x.type(text.charAt(i));
            }
            x.read();
            x.bits(true);
            x.write(10);
            x.write(2);
            x.out(0);
            x.back();
            x.exact();
            x.write(16);
            x.inexact();
            x.write(10);
        }
        x.make(true, 12345, -1000);
        x.divide(-5, 7);
        x.write(10);
    }
}
