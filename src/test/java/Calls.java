import java.util.ArrayList;
import java.util.List;

/** Runs of calls that many tests need. */
final class Calls {
    static final int LEAST = Integer.MIN_VALUE;
    static final int MOST = Integer.MAX_VALUE;

    private Calls() { }

    static TrainPipe pipe(String train, String handle) {
        TrainPipe p = new TrainPipe();
        Check.due("lines of " + train, Check.train(p, train) > 0, true);
        Check.due("steps of " + handle, Check.handle(p, handle) >= 0, true);
        return p;
    }

    static String blanks(int n) {
        return " ".repeat(n);
    }

    static String cars(int n) {
        return "car old 50;".repeat(n);
    }

    static void goodTrain(String text, int lines) {
        TrainPipe p = new TrainPipe();
        Check.due("train '" + text + "'", Check.train(p, text), lines);
        Check.due("fault of '" + text + "'", p.fault(), 0);
        Check.due("tape behind '" + text + "'", p.count(4), 0);
    }

    static void badTrain(String text, int place, int kind) {
        TrainPipe p = new TrainPipe();
        Check.due("train '" + text + "'", Check.train(p, text), -1 - place);
        Check.due("fault of '" + text + "'", p.fault(), kind);
        Check.due("tape behind '" + text + "'", p.count(4), 0);
        Check.due("one car stays behind '" + text + "'", p.count(0), 1);
        Check.due("its weight stays behind '" + text + "'", p.car(1, 1), 50);
        Check.due("its full stays behind '" + text + "'", p.at(0, 0, 0), 700);
    }

    static void goodHandle(String text, int steps, int ticks) {
        TrainPipe p = new TrainPipe();
        Check.due("handle '" + text + "'", Check.handle(p, text), steps);
        Check.due("fault of '" + text + "'", p.fault(), 0);
        Check.due("steps of '" + text + "'", p.count(1), steps);
        Check.due("ticks of '" + text + "'", p.count(3), ticks);
        Check.due("tape behind '" + text + "'", p.count(4), 0);
    }

    static void badHandle(String text, int place, int kind) {
        TrainPipe p = new TrainPipe();
        Check.handle(p, "hold 7;");
        Check.due("handle '" + text + "'", Check.handle(p, text), -1 - place);
        Check.due("fault of '" + text + "'", p.fault(), kind);
        Check.due("the handle stays behind '" + text + "'", p.count(3), 7);
        Check.due("tape behind '" + text + "'", p.count(4), 0);
    }

    static void state(TrainPipe p, int tick, int cell, int pressure, int tank, int cylinder) {
        String name = "tick " + tick + " cell " + cell;
        Check.due(name + " pressure", p.at(tick, cell, 0), pressure);
        Check.due(name + " tank", p.at(tick, cell, 1), tank);
        Check.due(name + " cylinder", p.at(tick, cell, 2), cylinder);
    }

    static int fits(TrainPipe p, int off, int hot, int... gauges) {
        for (int i = 0; i < gauges.length; i += 3) {
            Check.gauge(p, gauges[i], gauges[i + 1], gauges[i + 2]);
        }
        int got = p.fits(off, hot);
        Check.due("the tape is empty then", p.count(4), 0);
        return got;
    }

    static void fitting(String what, TrainPipe p, int... guesses) {
        for (int k = 0; k < guesses.length; k++) {
            Check.due(what + " " + k, p.fitAt(k), guesses[k]);
        }
        Check.due(what + " behind", p.fitAt(guesses.length), -1);
        Check.due(what + " ahead", p.fitAt(-1), -1);
    }

    static int day(TrainPipe p, boolean hot, int... wagons) {
        Check.put(p, wagons);
        int got = p.day(hot);
        Check.due("the tape is empty behind a day", p.count(4), 0);
        return got;
    }

    static int next(TrainPipe p, int... wagons) {
        Check.put(p, wagons);
        int got = p.next();
        Check.due("the tape is empty behind next", p.count(4), 0);
        return got;
    }

    static void found(String what, TrainPipe p, int d, int... wagons) {
        Check.due(what, p.suspects(d), wagons.length);
        for (int k = 0; k < wagons.length; k++) {
            Check.due(what + " " + k, p.suspect(k), wagons[k]);
        }
        Check.due(what + " behind", p.suspect(wagons.length), -1);
        Check.due(what + " ahead", p.suspect(-1), -1);
    }

    /** What can be asked without changing anything: to be like ahead of a refused call and behind it. */
    static List<Integer> seen(TrainPipe p) {
        List<Integer> answers = new ArrayList<>();
        for (int what = 0; what <= 4; what++) {
            answers.add(p.count(what));
        }
        answers.add(p.fault());
        for (int what = 0; what <= 6; what++) {
            answers.add(p.car(1, what));
        }
        for (int what = 0; what <= 2; what++) {
            answers.add(p.at(3, 1, what));
            answers.add(p.ran(what));
            answers.add(p.ordered(what));
            answers.add(p.fitAt(what));
            answers.add(p.walked(what));
            answers.add(p.suspect(what));
        }
        return answers;
    }

    /** A pipe of which every 'latest' call has an answer that can be lost. */
    static TrainPipe busy() {
        TrainPipe p = pipe("car old 50;car quick 60;", "dump 1;");
        p.run(0, 50, 0);
        p.order(0, 50, 0, 1);
        fits(p, 99, -1, 1, 175, 700);
        p.walks(3);
        day(p, true, 1, 2, 3);
        p.suspects(0);
        Check.put(p, 1, 2, 3);
        return p;
    }

    static void changesNothing(String what, TrainPipe p, Runnable call) {
        List<Integer> before = seen(p);
        call.run();
        Check.due(what + " changes nothing", seen(p).equals(before), true);
    }
}
