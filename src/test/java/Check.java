import java.util.NoSuchElementException;
import java.util.function.IntSupplier;

/** Counts wrong answers and tells them; a test ends with exit code 1 if there was one. */
final class Check {
    static final int THROWN = Integer.MIN_VALUE;
    private static int wrong = 0;
    private static int asked = 0;
    /** Stands ahead of every wrong answer that is told: which sentence of the document it breaks. */
    private static String under = "";

    private Check() { }

    static void due(String what, long got, long due) {
        asked++;
        if (got != due) {
            wrong++;
            System.out.println(under + what + ": answered " + got + ", due is " + due);
        }
    }

    static void under(String sentence) {
        under = sentence.isEmpty() ? "" : sentence + " | ";
    }

    static int asked() {
        return asked;
    }

    static void due(String what, boolean got, boolean due) {
        due(what, got ? 1 : 0, due ? 1 : 0);
    }

    static void thrown(String what, IntSupplier call) {
        int got;
        try {
            got = call.getAsInt();
        } catch (NoSuchElementException e) {
            got = THROWN;
        }
        due(what + " throws", got == THROWN, true);
    }

    static void close(String test) {
        System.out.println(test + ": " + asked + " answers, " + wrong + " wrong");
        if (wrong > 0) {
            System.exit(1);
        }
    }

    /** Bytes behind the tape of a pipe, as many as there are. */
    static void put(TrainPipe pipe, int... bytes) {
        int size = pipe.count(4);
        for (int i = 0; i < bytes.length; i += 20) {
            int[] n = new int[5];
            for (int k = 0; k < 20 && i + k < bytes.length; k++) {
                n[k / 4] |= (bytes[i + k] & 255) << (24 - 8 * (k % 4));
            }
            pipe.feed(n[0], n[1], n[2], n[3], n[4]);
        }
        pipe.end(size + bytes.length);
    }

    static void put(TrainPipe pipe, String text) {
        put(pipe, text.chars().toArray());
    }

    static int train(TrainPipe pipe, String text) {
        put(pipe, text);
        return pipe.train();
    }

    static int handle(TrainPipe pipe, String text) {
        put(pipe, text);
        return pipe.handle();
    }

    /** A GAUGE's six bytes behind the tape. */
    static void gauge(TrainPipe pipe, int tick, int front, int back) {
        put(pipe, tick >> 8, tick, front >> 8, front, back >> 8, back);
    }
}
