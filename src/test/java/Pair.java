import java.util.ArrayList;
import java.util.List;
import java.util.NoSuchElementException;
import java.util.function.IntSupplier;

/** A TrainPipe and a Model that get the same calls; the first answers that differ end the test. */
final class Pair {
    static final int THROWN = Integer.MIN_VALUE;

    final TrainPipe pipe = new TrainPipe();
    final Model model = new Model();
    private final String name;
    private final List<String> told = new ArrayList<>();

    Pair(String name) {
        this.name = name;
    }

    int calls() {
        return told.size();
    }

    int same(String call, IntSupplier got, IntSupplier due) {
        int a = answer(got);
        int b = answer(due);
        told.add(call + " = " + a);
        if (a != b) {
            System.out.println(name + ":");
            for (String line : told) {
                System.out.println("  " + line);
            }
            System.out.println("the last answer should be " + b);
            System.exit(1);
        }
        return a;
    }

    private static int answer(IntSupplier call) {
        try {
            return call.getAsInt();
        } catch (NoSuchElementException e) {
            return THROWN;
        }
    }

    void put(String text) {
        int[] bytes = new int[text.length()];
        for (int i = 0; i < bytes.length; i++) {
            bytes[i] = text.charAt(i);
        }
        put(bytes);
    }

    void put(int[] bytes) {
        int before = count(4);
        for (int i = 0; i < bytes.length; i += 20) {
            int[] n = new int[5];
            for (int k = 0; k < 20 && i + k < bytes.length; k++) {
                n[k / 4] |= (bytes[i + k] & 255) << (24 - 8 * (k % 4));
            }
            feed(n[0], n[1], n[2], n[3], n[4]);
        }
        end(before + bytes.length);
    }

    int feed(int a, int b, int c, int d, int e) {
        return same("feed(" + a + ", " + b + ", " + c + ", " + d + ", " + e + ")",
            () -> pipe.feed(a, b, c, d, e), () -> model.feed(a, b, c, d, e));
    }

    int end(int n) {
        return same("end(" + n + ")", () -> pipe.end(n) ? 1 : 0, () -> model.end(n) ? 1 : 0);
    }

    int train() {
        return same("train()", pipe::train, model::train);
    }

    int handle() {
        return same("handle()", pipe::handle, model::handle);
    }

    int fault() {
        return same("fault()", pipe::fault, model::fault);
    }

    int car(int c, int what) {
        return same("car(" + c + ", " + what + ")", () -> pipe.car(c, what), () -> model.car(c, what));
    }

    int at(int tick, int cell, int what) {
        return same("at(" + tick + ", " + cell + ", " + what + ")",
            () -> pipe.at(tick, cell, what), () -> model.at(tick, cell, what));
    }

    int hears(int c) {
        return same("hears(" + c + ")", () -> pipe.hears(c), () -> model.hears(c));
    }

    int easy() {
        return same("easy()", pipe::easy, model::easy);
    }

    int run(int grade, int speed, int snow) {
        return same("run(" + grade + ", " + speed + ", " + snow + ")",
            () -> pipe.run(grade, speed, snow), () -> model.run(grade, speed, snow));
    }

    int ran(int what) {
        return same("ran(" + what + ")", () -> pipe.ran(what), () -> model.ran(what));
    }

    int help(int grade, int speed, int snow, int span) {
        return same("help(" + grade + ", " + speed + ", " + snow + ", " + span + ")",
            () -> pipe.help(grade, speed, snow, span), () -> model.help(grade, speed, snow, span));
    }

    int parted(int k, int tick, int grade, int speed, int snow) {
        return same("parted(" + k + ", " + tick + ", " + grade + ", " + speed + ", " + snow + ")",
            () -> pipe.parted(k, tick, grade, speed, snow), () -> model.parted(k, tick, grade, speed, snow));
    }

    int order(int grade, int speed, int snow, int what) {
        return same("order(" + grade + ", " + speed + ", " + snow + ", " + what + ")",
            () -> pipe.order(grade, speed, snow, what), () -> model.order(grade, speed, snow, what));
    }

    int ordered(int k) {
        return same("ordered(" + k + ")", () -> pipe.ordered(k), () -> model.ordered(k));
    }

    int cut(int grade, int speed, int snow, int span) {
        return same("cut(" + grade + ", " + speed + ", " + snow + ", " + span + ")",
            () -> pipe.cut(grade, speed, snow, span), () -> model.cut(grade, speed, snow, span));
    }

    int fits(int off, int hot) {
        return same("fits(" + off + ", " + hot + ")", () -> pipe.fits(off, hot), () -> model.fits(off, hot));
    }

    int fitAt(int k) {
        return same("fitAt(" + k + ")", () -> pipe.fitAt(k), () -> model.fitAt(k));
    }

    int walks(int tick) {
        return same("walks(" + tick + ")", () -> pipe.walks(tick), () -> model.walks(tick));
    }

    int walked(int what) {
        return same("walked(" + what + ")", () -> pipe.walked(what), () -> model.walked(what));
    }

    int day(boolean hot) {
        return same("day(" + hot + ")", () -> pipe.day(hot), () -> model.day(hot));
    }

    int mended(int wagon) {
        return same("mended(" + wagon + ")", () -> pipe.mended(wagon) ? 1 : 0, () -> model.mended(wagon) ? 1 : 0);
    }

    int suspects(int d) {
        return same("suspects(" + d + ")", () -> pipe.suspects(d), () -> model.suspects(d));
    }

    int suspect(int k) {
        return same("suspect(" + k + ")", () -> pipe.suspect(k), () -> model.suspect(k));
    }

    int next() {
        return same("next()", pipe::next, model::next);
    }

    int count(int what) {
        return same("count(" + what + ")", () -> pipe.count(what), () -> model.count(what));
    }
}
