import java.io.IOException;
import java.lang.reflect.InvocationTargetException;
import java.lang.reflect.Method;
import java.lang.reflect.Modifier;
import java.nio.file.DirectoryStream;
import java.nio.file.Files;
import java.nio.file.Path;
import java.util.NoSuchElementException;
import java.util.TreeSet;
import java.util.regex.Matcher;
import java.util.regex.Pattern;

/** README.md holds what is true: its example is run line by line, and it names every call and every test. */
public final class ReadmeTest {
    private static final Pattern BLOCK = Pattern.compile("(?s)```java\n(.*?)```");
    private static final Pattern MADE = Pattern.compile("TrainPipe pipe = new TrainPipe\\(\\);.*");
    private static final Pattern TEXT = Pattern.compile("tell\\(pipe, \"(.*)\"\\);.*");
    private static final Pattern BYTES = Pattern.compile("tell\\(pipe, ([0-9, ]+)\\);.*");
    private static final Pattern CALL =
        Pattern.compile("pipe\\.(\\w+)\\((.*?)\\); +// (-?\\d+|true|false|throws)\\b.*");

    private static TrainPipe pipe = new TrainPipe();
    private static final TreeSet<String> CALLED = new TreeSet<>();

    public static void main(String[] args) throws IOException, IllegalAccessException {
        String readme = Files.readString(Path.of("README.md"));
        String[] blocks = BLOCK.matcher(readme).results().map(m -> m.group(1)).toArray(String[]::new);
        Check.due("a helper and an example", blocks.length, 2);
        Check.due("the helper of README.md is the one here", helperHere().equals(blocks[0]), true);
        for (String line : blocks[1].split("\n")) {
            follow(line);
        }
        for (Method m : TrainPipe.class.getDeclaredMethods()) {
            if (Modifier.isPublic(m.getModifiers())) {
                boolean shown = CALLED.contains(m.getName()) || blocks[0].contains("pipe." + m.getName() + "(");
                Check.due("shown in README.md: " + m.getName(), shown, true);
            }
        }
        namesEveryTest(readme);
        Check.due("how the tests are run", readme.contains("\n    .ci/run\n"), true);
        Check.close("ReadmeTest");
    }

    private static String helperHere() throws IOException {
        String source = Files.readString(Path.of("src/test/java/ReadmeTest.java"));
        int from = source.lastIndexOf("    static void tell(TrainPipe pipe, String text)");
        int to = source.lastIndexOf("}");
        return source.substring(from, to).replaceAll("(?m)^ {4}", "");
    }

    /** A line that is not understood is a wrong one: nothing of the example is left out. */
    private static void follow(String line) throws IllegalAccessException {
        Matcher text = TEXT.matcher(line);
        Matcher bytes = BYTES.matcher(line);
        Matcher call = CALL.matcher(line);
        if (MADE.matcher(line).matches()) {
            pipe = new TrainPipe();
        } else if (text.matches()) {
            tell(pipe, text.group(1));
        } else if (bytes.matches()) {
            tell(pipe, numbers(bytes.group(1)));
        } else if (call.matches()) {
            String got = answer(call.group(1), call.group(2));
            Check.due("true: " + line + " (it answers " + got + ")", got.equals(call.group(3)), true);
        } else {
            Check.due("a line that is understood: " + line, line.isEmpty(), true);
        }
    }

    private static int[] numbers(String told) {
        return Pattern.compile(", *").splitAsStream(told).mapToInt(n -> Integer.decode(n.trim())).toArray();
    }

    private static String answer(String name, String told) throws IllegalAccessException {
        String[] parts = told.isEmpty() ? new String[0] : told.split(", *");
        Object[] values = new Object[parts.length];
        for (int i = 0; i < parts.length; i++) {
            boolean isTruth = parts[i].equals("true") || parts[i].equals("false");
            if (isTruth) {
                values[i] = Boolean.valueOf(parts[i]);
            } else {
                values[i] = Integer.decode(parts[i]);
            }
        }
        CALLED.add(name);
        try {
            return String.valueOf(methodOf(name).invoke(pipe, values));
        } catch (InvocationTargetException e) {
            return e.getCause() instanceof NoSuchElementException ? "throws" : e.getCause().toString();
        }
    }

    private static Method methodOf(String name) {
        for (Method m : TrainPipe.class.getMethods()) {
            if (m.getName().equals(name)) {
                return m;
            }
        }
        throw new IllegalArgumentException("no such call: " + name);
    }

    private static void namesEveryTest(String readme) throws IOException {
        try (DirectoryStream<Path> files = Files.newDirectoryStream(Path.of("src/test/java"), "*Test.java")) {
            for (Path file : files) {
                String name = file.getFileName().toString().replace(".java", "");
                Check.due("in README.md: " + name, readme.contains("| " + name + " |"), true);
            }
        }
    }

    static void tell(TrainPipe pipe, String text) {
        tell(pipe, text.chars().toArray());
    }

    static void tell(TrainPipe pipe, int... bytes) {
        int before = pipe.count(4);
        for (int i = 0; i < bytes.length; i += 20) {
            int[] five = new int[5];
            for (int k = 0; k < 20 && i + k < bytes.length; k++) {
                five[k / 4] |= (bytes[i + k] & 255) << (24 - 8 * (k % 4));
            }
            pipe.feed(five[0], five[1], five[2], five[3], five[4]);
        }
        pipe.end(before + bytes.length);
    }
}
