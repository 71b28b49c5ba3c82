import java.io.IOException;
import java.lang.reflect.Constructor;
import java.lang.reflect.Field;
import java.lang.reflect.Method;
import java.lang.reflect.Modifier;
import java.nio.file.Files;
import java.nio.file.Path;
import java.util.ArrayList;
import java.util.List;
import java.util.Set;
import java.util.TreeSet;
import java.util.regex.Matcher;
import java.util.regex.Pattern;

/** The document's face and those rules of LANGUAGE.md that can be seen without reading. */
public final class FaceTest {
    private static final String[] FACE = {
        "int feed(int,int,int,int,int)", "boolean end(int)", "int train()", "int handle()", "int fault()",
        "int car(int,int)", "int at(int,int,int)", "int hears(int)", "int easy()", "int run(int,int,int)",
        "int ran(int)", "int help(int,int,int,int)", "int parted(int,int,int,int,int)", "int order(int,int,int,int)",
        "int ordered(int)", "int cut(int,int,int,int)", "int fits(int,int)", "int fitAt(int)", "int walks(int)",
        "int walked(int)", "int day(boolean)", "boolean mended(int)", "int suspects(int)", "int suspect(int)",
        "int next()", "int count(int)"};
    private static final String[] RULED_OUT = {"->", "::", "catch", "finally", "synchronized", "assert ", "static {",
        "Exact", "System.out", "Random", "nanoTime", "currentTimeMillis", "instanceof", "double", "float", "String["};
    /** The library's static functions that the class needs; rule 4 lists all of them. */
    private static final Set<String> NEEDED =
        Set.of("Math.min", "Math.max", "Math.abs", "Integer.bitCount", "System.arraycopy");

    public static void main(String[] args) throws IOException {
        face();
        members();
        source(Files.readString(Path.of("src/main/java/TrainPipe.java")));
        Check.close("FaceTest");
    }

    private static String told(Method m) {
        List<String> types = new ArrayList<>();
        for (Class<?> type : m.getParameterTypes()) {
            types.add(type.getName());
        }
        return m.getReturnType().getName() + " " + m.getName() + "(" + String.join(",", types) + ")";
    }

    private static void face() {
        TreeSet<String> due = new TreeSet<>(List.of(FACE));
        TreeSet<String> names = new TreeSet<>();
        for (Method m : TrainPipe.class.getDeclaredMethods()) {
            if (!Modifier.isPrivate(m.getModifiers())) {
                Check.due("in the face: " + told(m), due.remove(told(m)), true);
                Check.due("public, not static: " + told(m), m.getModifiers(), Modifier.PUBLIC);
                names.add(m.getName());
            }
        }
        Check.due("missing " + due, due.size(), 0);
        for (Class<?> inner : TrainPipe.class.getDeclaredClasses()) {
            for (Method m : inner.getDeclaredMethods()) {
                Check.due("a name of the face inside: " + m, names.contains(m.getName()), false);
            }
        }
        for (Method m : TrainPipe.class.getDeclaredMethods()) {
            if (Modifier.isPrivate(m.getModifiers())) {
                Check.due("a name of the face: " + m, names.contains(m.getName()), false);
            }
        }
    }

    private static void members() {
        Check.due("public final", TrainPipe.class.getModifiers(), Modifier.PUBLIC | Modifier.FINAL);
        Constructor<?>[] made = TrainPipe.class.getDeclaredConstructors();
        Check.due("one constructor", made.length, 1);
        Check.due("a public one", made[0].getModifiers(), Modifier.PUBLIC);
        for (Field f : TrainPipe.class.getDeclaredFields()) {
            boolean open = f.getName().equals("NONE");
            Check.due("seen outside: " + f, Modifier.isPublic(f.getModifiers()), open);
            Check.due("private: " + f, Modifier.isPrivate(f.getModifiers()), !open);
        }
        Check.due("NONE", TrainPipe.NONE, -1);
        Class<?>[] inner = TrainPipe.class.getDeclaredClasses();
        Check.due("at most twelve classes", inner.length + 1 <= 12, true);
        for (Class<?> c : inner) {
            Check.due("static: " + c, Modifier.isStatic(c.getModifiers()), true);
            Check.due("not public: " + c, Modifier.isPublic(c.getModifiers()), false);
            int fields = 0;
            for (Field f : c.getDeclaredFields()) {
                fields += Modifier.isStatic(f.getModifiers()) ? 0 : 1;
                Check.due("static ones are final: " + f,
                    Modifier.isStatic(f.getModifiers()) && !Modifier.isFinal(f.getModifiers()), false);
            }
            Check.due("at most twenty fields: " + c, fields <= 20, true);
            for (Method m : c.getDeclaredMethods()) {
                Check.due("at most seven parameters: " + m, m.getParameterCount() <= 7, true);
            }
        }
    }

    private static void source(String text) {
        for (String word : RULED_OUT) {
            Check.due("ruled out: " + word, text.contains(word), false);
        }
        Matcher imports = Pattern.compile("(?m)^import (.*);$").matcher(text);
        while (imports.find()) {
            Check.due("import " + imports.group(1), imports.group(1).equals("java.util.NoSuchElementException"), true);
        }
        Matcher library = Pattern.compile("\\b([A-Z][a-z]\\w*\\.[a-z]\\w*)\\(").matcher(text);
        while (library.find()) {
            Check.due("of the library: " + library.group(1), NEEDED.contains(library.group(1)), true);
        }
        Check.due("two calls throw", text.split("throw new ", -1).length - 1, 2);
        Check.due("what the document says", text.split("throw new NoSuchElementException\\(\"", -1).length - 1, 2);
        int begun = -1;
        String[] lines = text.split("\n");
        for (int i = 0; i < lines.length; i++) {
            if (lines[i].matches(" {4}( {4})?[a-zA-Z].*\\) (throws \\w+ )?\\{")) {
                begun = i;
            } else if (lines[i].matches(" {4}( {4})?\\}") && begun >= 0) {
                Check.due("a short method at line " + (begun + 1), i - begun <= 60, true);
                begun = -1;
            }
            Check.due("a line of at most 120 signs: " + (i + 1), lines[i].length() <= 120, true);
            // Rows and objects are made with the TrainPipe: a 'new' stands at a final field or behind throw.
            boolean makes = lines[i].matches(".*\\bnew [A-Za-z]+[\\[(].*");
            boolean may = lines[i].contains("throw new") || lines[i].matches(" +(private )?final .* = new .*;");
            Check.due("an object made at line " + (i + 1), makes && !may, false);
        }
    }
}
