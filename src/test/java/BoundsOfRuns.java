import java.util.Arrays;
import java.util.function.Consumer;

/**
 * Sentence by sentence: 'Terms' ==== 3. and the promises 11 to 17, RUNS. Most SPANS can be told by hand: an
 * old CAR behind a shut hose that is dumped has 40 more in its CYLINDER in each TICK.
 */
final class BoundsOfRuns {
    private static final String HERE = "Terms 3";
    private static final String SHUT = "car old 10 hose 0;";
    /** Sets by its own leak, whatever the HANDLE does. */
    private static final String LEAKING = "car old 10 hose 0 leak 99;";
    private static final int[][] NO_RUNS = {{-41, 5, 0}, {41, 5, 0}, {Calls.LEAST, 5, 0}, {Calls.MOST, 5, 0},
        {0, -1, 0}, {0, 3001, 0}, {0, Calls.LEAST, 0}, {0, Calls.MOST, 0},
        {0, 5, -1}, {0, 5, 91}, {0, 5, Calls.LEAST}, {0, 5, Calls.MOST}};
    private static final int[][] EDGE_RUNS = {{-40, 0, 0}, {40, 0, 90}, {-40, 3000, 0}, {-40, 3000, 90}};

    private BoundsOfRuns() { }

    static void all() {
        runs();
        runPromises();
        help();
        parted();
        orders();
        cutOut();
    }

    private static void runs() {
        Sentence.holds(HERE, "A RUN: by the HANDLE down a GRADE (-40 to 40), from a SPEED (0 to 3000), with SNOW (0 "
            + "to 90):", BoundsOfRuns::gradeSpeedSnow);
        Sentence.holds(HERE, "in each TICK, behind its valves, SPEED is more by (W times GRADE, less 4 times B) by "
            + "W,", BoundsOfRuns::behindItsValves);
        Sentence.holds(HERE, "cut towards 0", BoundsOfRuns::gainCutTowardsZero);
        Sentence.holds(HERE, "(0 at least);", BoundsOfRuns::speedZeroAtLeast);
        Sentence.holds(HERE, "the WAY is more by the new SPEED.", BoundsOfRuns::wayByTheNewSpeed);
        Sentence.holds(HERE, "W: 90 and all WEIGHTS;", BoundsOfRuns::allWeights);
        Sentence.holds(HERE, "B: the sum over CARS not out of CYLINDER times (100 less SNOW) by 100, cut each.",
            BoundsOfRuns::brakesCutEach);
        Sentence.holds(HERE, "STOPPED with SPEED 0: the SPAN is the WAY till then (0 at SPEED 0 at first);",
            BoundsOfRuns::stoppedWithSpeedZero);
        Sentence.holds(HERE, "600 TICKS at most.", BoundsOfRuns::atMost600Ticks);
    }

    private static void ran(TrainPipe p, int ticks, int greatest, int last) {
        Check.due("ticks", p.ran(0), ticks);
        Check.due("greatest speed", p.ran(1), greatest);
        Check.due("speed at the end", p.ran(2), last);
    }

    /** W is 100, and 4 times B by W is 1.6, 3.2, 4.8 .. */
    private static TrainPipe braking() {
        return Calls.pipe(SHUT, "both;dump 1;");
    }

    private static void gradeSpeedSnow() {
        TrainPipe p = new TrainPipe();
        Check.due("steepest up", p.run(-40, 3000, 0), 111000);
        Check.due("steepest up in snow", p.run(-40, 3000, 90), 111000);
        Check.due("steepest down", p.run(40, 3000, 90), -1);
        ran(p, 600, 27000, 27000);
        Check.due("steepest down, at rest", p.run(40, 0, 0), 0);
        Check.due("level", p.run(0, 3000, 0), -1);
        ran(p, 600, 3000, 3000);
        for (int[] r : NO_RUNS) {
            Check.due("run " + r[0] + " " + r[1] + " " + r[2], p.run(r[0], r[1], r[2]), -2);
        }
    }

    private static void behindItsValves() {
        TrainPipe p = braking();
        Check.due("the first tick brakes", p.run(0, 1, 0), 0);
        ran(p, 1, 1, 0);
        Check.due("2, 1, 0", p.run(0, 2, 0), 1);
        ran(p, 2, 2, 0);
        // 300 less 160, 320, 480, 640, 800: 1, 0, -1, -3, -5.
        Check.due("5, 6, 6, 5, 2, 0", p.run(3, 5, 0), 19);
        ran(p, 5, 6, 0);
        p = Calls.pipe(SHUT, "");
        Check.due("by the handle: it holds", p.run(0, 1, 0), -1);
        ran(p, 600, 1, 1);
    }

    private static void gainCutTowardsZero() {
        TrainPipe p = braking();
        // -1.6 is -1, not -2.
        Check.due("below 0", p.run(0, 2, 0), 1);
        // -0.6 is 0, not -1; then -2.2 is -2.
        Check.due("between -1 and 0", p.run(1, 1, 0), 1);
        ran(p, 2, 1, 0);
        // 1.4 is 1, not 2.
        p.run(3, 5, 0);
        Check.due("above 0", p.ran(1), 6);
        // 2 less 1.6 is 0.4, then -1.2, -2.8.
        Check.due("between 0 and 1", p.run(2, 1, 0), 1);
        ran(p, 2, 1, 0);
    }

    private static void speedZeroAtLeast() {
        TrainPipe p = new TrainPipe();
        Check.due("40 of 1", p.run(-40, 1, 0), 0);
        ran(p, 1, 1, 0);
        Check.due("40 of 39", p.run(-40, 39, 0), 0);
        ran(p, 1, 39, 0);
        Check.due("40 of 40", p.run(-40, 40, 0), 0);
        ran(p, 1, 40, 0);
        Check.due("40 of 41", p.run(-40, 41, 0), 1);
        ran(p, 2, 41, 0);
    }

    private static void wayByTheNewSpeed() {
        TrainPipe p = new TrainPipe();
        Check.due("90 and 80 .. and 0", p.run(-10, 100, 0), 450);
        Check.due("2, 1, 0", p.run(-1, 3, 0), 3);
        // Faster at first: 4 and 5, less from then on.
        p = Calls.pipe(SHUT, "both;hold 2;dump 1;");
        // Gains of 1, 1, 0, -2, -3, -5.
        Check.due("4, 5, 5, 3, 0", p.run(1, 3, 0), 17);
        ran(p, 5, 5, 0);
    }

    private static void allWeights() {
        // W is 100, 160 by 100 is 1; W 160 is just 1; W 161 is 0.
        Check.due("W 100", braking().run(0, 1, 0), 0);
        Check.due("W 160", Calls.pipe("car old 70 hose 0;", "both;dump 1;").run(0, 1, 0), 0);
        Check.due("W 161", Calls.pipe("car old 71 hose 0;", "both;dump 1;").run(0, 1, 0), 1);
        // A CAR that is out weighs as well.
        Check.due("W 160, one is out", Calls.pipe("car old 20 out;car old 50 hose 0;", "both;dump 1;").run(0, 1, 0), 0);
        Check.due("W 161, one is out", Calls.pipe("car old 21 out;car old 50 hose 0;", "both;dump 1;").run(0, 1, 0), 1);
        // 16 CARS of 99: W is 1674, 16 times 160 by that is 1.5, 3.05.
        TrainPipe p = Calls.pipe("car old 99 hose 0 leak 99;".repeat(16), "");
        Check.due("W 1674", p.run(0, 4, 0), 3);
        ran(p, 2, 4, 0);
    }

    private static void brakesCutEach() {
        // SNOW 90: 4, 8 .. 28 of CYLINDERS of 40, 80 .. 280; 4 times 28 is the first above W, 100.
        TrainPipe p = braking();
        Check.due("snow 90", p.run(0, 1, 90), 6);
        Check.due("snow 89", p.run(0, 1, 89), 5);
        Check.due("snow 0", p.run(0, 1, 0), 0);
        // Two CYLINDERS of 40 in SNOW 1: 39.6 each, together 78 and not 79; W is 158, so 4 times 79 would stop it.
        p = Calls.pipe("car old 34 hose 0 leak 99;".repeat(2), "");
        Check.due("cut each", p.run(0, 2, 1), 1);
        Check.due("without snow", p.run(0, 2, 0), 0);
        // A CAR that is out has nothing in its CYLINDER to brake with.
        p = Calls.pipe("car old 10 hose 0 leak 99 out;", "");
        Check.due("out", p.run(0, 1, 0), -1);
    }

    private static void stoppedWithSpeedZero() {
        TrainPipe p = new TrainPipe();
        for (int grade : new int[] {-40, 0, 40}) {
            Check.due("at rest on " + grade, p.run(grade, 0, 0), 0);
            ran(p, 0, 0, 0);
        }
        // It stays STOPPED, though the grade goes down and the brakes let go later.
        p = Calls.pipe("full 300;feed 99;" + SHUT, "both;dump 9;let 99;");
        Check.due("3, 3, 2, 0", p.run(2, 3, 0), 5);
        ran(p, 3, 3, 0);
    }

    private static void atMost600Ticks() {
        TrainPipe p = new TrainPipe();
        Check.due("in tick 599", p.run(-1, 599, 0), 599 * 598 / 2);
        ran(p, 599, 599, 0);
        Check.due("in tick 600", p.run(-1, 600, 0), 600 * 599 / 2);
        ran(p, 600, 600, 0);
        Check.due("in tick 601", p.run(-1, 601, 0), -1);
        ran(p, 600, 601, 1);
    }

    private static void runPromises() {
        Sentence.holds("Promise 11", "`int run(int grade, int speed, int snow)`: A RUN: its SPAN;",
            BoundsOfRuns::spanOfARun);
        Sentence.holds("Promise 11", "NONE: it is not STOPPED; -2: not as told.",
            BoundsOfRuns::notStoppedOrNotAsTold);
        Sentence.holds("Promise 12", "`int ran(int what)`: Of the latest run() that was not -2:",
            BoundsOfRuns::theLatestRun);
        Sentence.holds("Promise 12", "0 in how many TICKS it was STOPPED (600 if not),",
            BoundsOfRuns::ticksOrSixHundred);
        Sentence.holds("Promise 12", "1 the greatest SPEED, 2 the SPEED at the end.",
            BoundsOfRuns::greatestAndLastSpeed);
        Sentence.holds("Promise 12", "NONE for another what, or ahead of any.", BoundsOfRuns::anotherRan);
    }

    private static void spanOfARun() {
        TrainPipe p = braking();
        Check.due("the first", p.run(0, 2, 0), 1);
        Check.due("again, from the beginning", p.run(0, 2, 0), 1);
        Check.train(p, "car old 70 hose 0;");
        Check.due("by the train as it is now", p.run(0, 1, 0), 0);
        Check.handle(p, "");
        Check.due("by the handle as it is now", p.run(0, 1, 0), -1);
    }

    private static void notStoppedOrNotAsTold() {
        TrainPipe p = new TrainPipe();
        Check.due("not stopped", p.run(0, 1, 0), -1);
        Check.due("1 is left", p.run(-1, 601, 0), -1);
        for (int[] r : NO_RUNS) {
            Check.due("run " + r[0] + " " + r[1] + " " + r[2], p.run(r[0], r[1], r[2]), -2);
        }
        for (int[] r : EDGE_RUNS) {
            Check.due("run " + r[0] + " " + r[1] + " " + r[2], p.run(r[0], r[1], r[2]) >= -1, true);
        }
    }

    private static void theLatestRun() {
        TrainPipe p = Calls.pipe(SHUT + SHUT, "");
        p.run(-10, 100, 0);
        ran(p, 10, 100, 0);
        for (int[] r : NO_RUNS) {
            p.run(r[0], r[1], r[2]);
        }
        ran(p, 10, 100, 0);
        p.help(0, 50, 0, 999);
        p.parted(1, 1, 0, 50, 0);
        p.order(0, 50, 0, 0);
        p.cut(0, 50, 0, 999);
        p.at(600, 1, 1);
        p.easy();
        Check.train(p, "car old 50;");
        Check.handle(p, "hold 1;");
        ran(p, 10, 100, 0);
        Check.due("one that is not stopped", p.run(0, 9, 0), -1);
        ran(p, 600, 9, 9);
    }

    private static void ticksOrSixHundred() {
        TrainPipe p = new TrainPipe();
        p.run(40, 0, 0);
        Check.due("none", p.ran(0), 0);
        p.run(-40, 40, 0);
        Check.due("one", p.ran(0), 1);
        p.run(-1, 600, 0);
        Check.due("600", p.ran(0), 600);
        p.run(0, 1, 0);
        Check.due("600 if not", p.ran(0), 600);
    }

    private static void greatestAndLastSpeed() {
        TrainPipe p = new TrainPipe();
        p.run(-1, 601, 0);
        Check.due("greatest at first", p.ran(1), 601);
        Check.due("1 at the end", p.ran(2), 1);
        p.run(40, 1, 0);
        Check.due("greatest at the end", p.ran(1), 24001);
        Check.due("24001 at the end", p.ran(2), 24001);
        p = braking();
        p.run(3, 5, 0);
        Check.due("greatest between", p.ran(1), 6);
        Check.due("0 at the end", p.ran(2), 0);
    }

    private static void anotherRan() {
        TrainPipe p = new TrainPipe();
        for (int what = -1; what <= 3; what++) {
            Check.due("ahead of any " + what, p.ran(what), -1);
        }
        p.run(0, 3001, 0);
        p.help(0, 5, 0, 5);
        Check.due("behind one that was -2", p.ran(0), -1);
        p.run(-10, 100, 0);
        for (int what : new int[] {-1, 3, Calls.MOST, Calls.LEAST}) {
            Check.due("ran " + what, p.ran(what), -1);
        }
    }

    private static void help() {
        Sentence.holds(HERE, "HELP: the last TICK t (0 to 400) so that, the HANDLE being done in the TICKS 1 to t",
            BoundsOfRuns::lastTickThatHelps);
        Sentence.holds(HERE, "and a dump (with 'both', if it has that) behind them,", BoundsOfRuns::dumpWithBoth);
        Sentence.holds(HERE, "it is STOPPED within a told SPAN.", BoundsOfRuns::stoppedWithinTheSpan);
        Sentence.holds("Promise 13", "`int help(int grade, int speed, int snow, int span)`: HELP for a SPAN (0 or "
            + "more): t;", BoundsOfRuns::helpForASpan);
        Sentence.holds("Promise 13", "NONE: none; -2: not as told.", BoundsOfRuns::noHelp);
    }

    /** From a SPEED of 2 a dump behind TICK t stops it in 2 t and 1. */
    private static TrainPipe undumped() {
        return Calls.pipe(SHUT, "both;");
    }

    private static void lastTickThatHelps() {
        TrainPipe p = undumped();
        Check.due("behind tick 0", p.help(0, 2, 0, 1), 0);
        Check.due("behind tick 1", p.help(0, 2, 0, 3), 1);
        Check.due("behind tick 399", p.help(0, 2, 0, 799), 399);
        Check.due("behind tick 399 still", p.help(0, 2, 0, 800), 399);
        Check.due("behind tick 400", p.help(0, 2, 0, 801), 400);
        Check.due("400 at most", p.help(0, 2, 0, 803), 400);
        Check.due("400 at most by any span", p.help(0, 2, 0, Calls.MOST), 400);
        // The HANDLE dumps itself in TICK 6: later dumps make no difference.
        Check.handle(p, "both;hold 5;dump 1;");
        Check.due("the handle's own dump", p.help(0, 2, 0, 11), 400);
        Check.due("one tick sooner", p.help(0, 2, 0, 10), 4);
        // STOPPED ahead of TICK t counts: behind TICK 10 by the grade.
        p = new TrainPipe();
        Check.due("stops by itself", p.help(-10, 100, 0, 450), 400);
        Check.due("in tick 400", p.help(-1, 400, 0, 79800), 400);
        Check.due("at rest", p.help(40, 0, 0, 0), 400);
    }

    private static void dumpWithBoth() {
        TrainPipe p = undumped();
        Check.due("with both", p.help(0, 2, 0, 1), 0);
        Check.handle(p, "");
        Check.due("the dump does not pass the shut hose", p.help(0, 2, 0, Calls.MOST), -1);
        // In the TICK behind t and in all that follow, whatever the HANDLE would do then.
        p = Calls.pipe("full 300;feed 99;" + SHUT, "both;let 99;");
        Check.due("in place of the handle", p.help(0, 20, 0, 53), 0);
        Check.due("less than its span", p.help(0, 20, 0, 52), -1);
        Check.due("the span of a dump", Calls.pipe("full 300;" + SHUT, "both;dump 1;").run(0, 20, 0), 53);
    }

    private static void stoppedWithinTheSpan() {
        TrainPipe p = undumped();
        Check.due("just the span", p.help(0, 2, 0, 1), 0);
        Check.due("one less", p.help(0, 2, 0, 0), -1);
        Check.due("just the span of tick 7", p.help(0, 2, 0, 15), 7);
        Check.due("one less than that", p.help(0, 2, 0, 14), 6);
        // Within the SPAN, but not STOPPED in 600 TICKS.
        Check.due("not stopped", new TrainPipe().help(40, 1, 90, Calls.MOST), -1);
        // The HANDLE's own RUN goes beyond the SPAN in TICK 3.
        Check.due("beyond the span by itself", p.help(0, 2, 0, 5), 2);
        // In SNOW 90 a dump stops a SPEED of 1 in 7 TICKS and a SPAN of 6.
        Check.due("in snow", p.help(0, 1, 90, 6), 0);
        Check.due("in snow, one less", p.help(0, 1, 90, 5), -1);
        // From 400 it takes 209 TICKS there (none, six by 1, all others by 2): STOPPED in TICK 600 from 391.
        Check.due("600 ticks at most", p.help(0, 400, 90, Calls.MOST), 391);
    }

    private static void helpForASpan() {
        TrainPipe p = undumped();
        Check.due("span 0, at rest", p.help(0, 0, 0, 0), 400);
        Check.due("span 0, stopped in tick 1", p.help(0, 1, 0, 0), 0);
        Check.due("span 0, too fast", p.help(0, 2, 0, 0), -1);
        Check.due("the greatest span", p.help(-40, 3000, 90, Calls.MOST), 400);
    }

    private static void noHelp() {
        TrainPipe p = undumped();
        Check.due("none", p.help(0, 3000, 0, 9), -1);
        Check.due("span -1", p.help(0, 5, 0, -1), -2);
        Check.due("span least", p.help(0, 5, 0, Calls.LEAST), -2);
        Check.due("span -1, at rest", p.help(0, 0, 0, -1), -2);
        for (int[] r : NO_RUNS) {
            Check.due("help " + r[0] + " " + r[1] + " " + r[2], p.help(r[0], r[1], r[2], 999), -2);
        }
        for (int[] r : EDGE_RUNS) {
            Check.due("help " + r[0] + " " + r[1] + " " + r[2], p.help(r[0], r[1], r[2], 111000), 400);
        }
    }

    private static void parted() {
        Sentence.holds(HERE, "PARTED behind CAR k: hoses as they are,", BoundsOfRuns::otherHosesAsTheyAre);
        Sentence.holds(HERE, "but in the TICK in which it parts and behind it the CELLS at both sides of that hose "
            + "are 0 behind the hoses' flows (that hose has none).", BoundsOfRuns::cellsAtBothSides);
        Sentence.holds("Promise 14", "`int parted(int k, int tick, int grade, int speed, int snow)`: The RUN of a "
            + "TRAIN that is PARTED behind CAR k (1 to n less 1)", BoundsOfRuns::partedBehindOneToLastButOne);
        Sentence.holds("Promise 14", "in a TICK (1 to 600):", BoundsOfRuns::partedInTick1To600);
        Sentence.holds("Promise 14", "its SPAN (all of it together, as one);", BoundsOfRuns::allOfItTogether);
        Sentence.holds("Promise 14", "NONE: it is not STOPPED; -2: not as told.", BoundsOfRuns::notPartedAsTold);
    }

    private static void otherHosesAsTheyAre() {
        // W is 120. Both sides of the parting set: 8, 6 and, if a third CAR sets in TICK 2, 0, else 1.
        TrainPipe p = Calls.pipe(SHUT + SHUT + "car old 10;", "");
        Check.due("the third hears by its hose", p.parted(1, 1, 0, 8, 0), 6);
        p = Calls.pipe(SHUT + SHUT + SHUT, "");
        Check.due("behind a shut hose it does not", p.parted(1, 1, 0, 8, 0), 7);
        Check.due("nor the first", p.parted(2, 1, 0, 8, 0), 7);
        p = Calls.pipe(SHUT + "car old 10;" + SHUT, "");
        Check.due("the first hears by the second's hose", p.parted(2, 1, 0, 8, 0), 6);
    }

    private static void cellsAtBothSides() {
        // W is 110; 4 times B by W is 2.9, 5.8, 8.7.
        TrainPipe p = Calls.pipe(SHUT + SHUT, "");
        Check.due("in the tick itself", p.parted(1, 1, 0, 7, 0), 5);
        Check.due("not ahead of it", p.parted(1, 2, 0, 7, 0), 12);
        Check.due("three ticks", p.parted(1, 1, 0, 8, 0), 7);
        // They stay at 0, whatever the hoses and the HANDLE bring.
        String whole = "full 300;feed 99;car old 10;car old 10;";
        String shut = "full 300;feed 99;" + SHUT + SHUT;
        for (String handle : new String[] {"let 99;", "both;let 99;", "both;hold 2;let 99;"}) {
            TrainPipe fed = Calls.pipe(whole, handle);
            TrainPipe unfed = Calls.pipe(shut, "");
            for (int speed : new int[] {8, 90, 400, 1500}) {
                Check.due("fed by " + handle + " from " + speed, fed.parted(1, 1, 5, speed, 0),
                    unfed.parted(1, 1, 5, speed, 0));
            }
        }
        // Just 0: of 700 through a hose of 12 it takes 21, more than the SENSE of an old CAR, of 699 it takes 20.
        for (int full : new int[] {699, 700}) {
            TrainPipe behind = Calls.pipe("full " + full + ";" + SHUT + SHUT + "car old 10 hose 12;", "");
            Check.due("behind it, of " + full, behind.parted(1, 1, 0, 8, 0), full == 700 ? 6 : 7);
            TrainPipe ahead = Calls.pipe("full " + full + ";" + SHUT + "car old 10 hose 12;" + SHUT, "");
            Check.due("ahead of it, of " + full, ahead.parted(2, 1, 0, 8, 0), full == 700 ? 6 : 7);
        }
        // In SNOW 50 half of each CYLINDER: 1.4, 2.9, 4.3.
        Check.due("in snow", p.parted(1, 1, 0, 7, 50), 6 + 4);
        // Behind TICKS in which nothing moved: the 99th.
        Check.due("after a long rest", p.parted(1, 99, 0, 7, 0), 98 * 7 + 5);
    }

    private static void partedBehindOneToLastButOne() {
        TrainPipe p = Calls.pipe(Calls.cars(16), "");
        Check.due("k 1", p.parted(1, 1, -40, 40, 0), 0);
        Check.due("k 15", p.parted(15, 1, -40, 40, 0), 0);
        // W is 250: the two CARS at the parting brake by 1.28.
        TrainPipe shut = Calls.pipe(SHUT.repeat(16), "");
        for (int k = 1; k <= 15; k++) {
            Check.due("two brake behind " + k, shut.parted(k, 1, 0, 1, 0), 0);
        }
        for (int k : new int[] {0, 16, 17, -1, Calls.MOST, Calls.LEAST}) {
            Check.due("k " + k, p.parted(k, 1, -40, 40, 0), -2);
        }
        p = Calls.pipe(SHUT + SHUT, "");
        Check.due("k 1 of two", p.parted(1, 1, 0, 7, 0), 5);
        Check.due("k 2 of two", p.parted(2, 1, 0, 7, 0), -2);
        Check.due("k 0 of two", p.parted(0, 1, 0, 7, 0), -2);
        Check.due("k 1 of one", new TrainPipe().parted(1, 1, 0, 0, 0), -2);
        Check.due("k 0 of one", new TrainPipe().parted(0, 1, 0, 0, 0), -2);
        // The parting behind the last but one sets the last two: 6 of 8 in the first TICK, W being 120.
        p = Calls.pipe(SHUT + SHUT + "car old 10 hose 0 out;", "");
        Check.due("k 1: both set", p.parted(1, 1, 0, 2, 0), 0);
        Check.due("k 2: one is out", p.parted(2, 1, 0, 2, 0), 1);
    }

    private static void partedInTick1To600() {
        TrainPipe p = Calls.pipe(SHUT + SHUT, "");
        Check.due("tick 0", p.parted(1, 0, 0, 7, 0), -2);
        Check.due("tick 1", p.parted(1, 1, 0, 7, 0), 5);
        Check.due("tick 599", p.parted(1, 599, 0, 7, 0), 598 * 7 + 5);
        Check.due("tick 600", p.parted(1, 600, 0, 2, 0), 599 * 2);
        Check.due("tick 600, too fast", p.parted(1, 600, 0, 3, 0), -1);
        Check.due("tick 601", p.parted(1, 601, 0, 2, 0), -2);
        Check.due("tick -1", p.parted(1, -1, 0, 2, 0), -2);
        Check.due("tick most", p.parted(1, Calls.MOST, 0, 2, 0), -2);
        Check.due("tick least", p.parted(1, Calls.LEAST, 0, 2, 0), -2);
        Check.due("stopped ahead of it", p.parted(1, 600, -40, 40, 0), 0);
    }

    private static void allOfItTogether() {
        // W is 110 with both CARS: 2.9 is 2; of 100 alone it would be 3.2.
        TrainPipe p = Calls.pipe(SHUT + SHUT, "");
        Check.due("3, 1, 0", p.parted(1, 1, 0, 3, 0), 1);
        Check.due("at rest", p.parted(1, 1, 40, 0, 0), 0);
        p.parted(1, 1, 0, 3, 0);
        Check.due("the train is whole again", p.run(0, 3, 0), -1);
        Check.due("and no cell is 0", p.at(600, 1, 0), 700);
    }

    private static void notPartedAsTold() {
        TrainPipe p = Calls.pipe(SHUT + SHUT, "");
        Check.due("not stopped", p.parted(1, 1, 40, 3000, 90), -1);
        for (int[] r : NO_RUNS) {
            Check.due("parted " + r[0] + " " + r[1] + " " + r[2], p.parted(1, 1, r[0], r[1], r[2]), -2);
        }
        for (int[] r : EDGE_RUNS) {
            Check.due("parted " + r[0] + " " + r[1] + " " + r[2], p.parted(1, 1, r[0], r[1], r[2]) >= 0, true);
        }
    }

    private static void orders() {
        Sentence.holds(HERE, "ORDERS (6 CARS at most):", BoundsOfRuns::sixCarsAtMost);
        Sentence.holds(HERE, "of all orders of the CARS (each with its own hose, leak ..) the one with the least "
            + "SPAN, the one with the greatest", BoundsOfRuns::leastAndGreatest);
        Sentence.holds(HERE, "(one that does not STOP is greater than all);", BoundsOfRuns::notStoppingIsGreatest);
        Sentence.holds(HERE, "of like ones the first (CARS by their numbers in the text).",
            BoundsOfRuns::theFirstOfLike);
        Sentence.holds("Promise 15", "`int order(int grade, int speed, int snow, int what)`: ORDERS: the least SPAN "
            + "(what 0), the greatest (1):", BoundsOfRuns::whatZeroOrOne);
        Sentence.holds("Promise 15", "NONE: it is not STOPPED in that order;", BoundsOfRuns::noneStops);
        Sentence.holds("Promise 15", "-2: not as told, or more than 6 CARS.", BoundsOfRuns::noOrder);
        Sentence.holds("Promise 16", "`int ordered(int k)`: Which CAR is the k-th (0 the first behind the engine) "
            + "in the order of the latest order() that was not -2;", BoundsOfRuns::theLatestOrder);
        Sentence.holds("Promise 16", "NONE: there is none such, or ahead of any.", BoundsOfRuns::noneOrdered);
    }

    private static void order(String what, TrainPipe p, int... cars) {
        for (int k = 0; k < cars.length; k++) {
            Check.due(what + ", " + k, p.ordered(k), cars[k]);
        }
        Check.due(what + ", behind", p.ordered(cars.length), -1);
        Check.due(what + ", ahead", p.ordered(-1), -1);
    }

    private static void sixCarsAtMost() {
        TrainPipe p = Calls.pipe(SHUT, "both;dump 1;");
        Check.due("one car", p.order(0, 2, 0, 0), 1);
        order("one car", p, 1);
        p = Calls.pipe(SHUT.repeat(6), "both;dump 1;");
        Check.due("six cars", p.order(0, 1, 0, 0), 0);
        order("six cars", p, 1, 2, 3, 4, 5, 6);
        p = Calls.pipe(SHUT.repeat(7), "both;dump 1;");
        Check.due("seven cars", p.order(0, 1, 0, 0), -2);
        Check.due("seven cars, the greatest", p.order(0, 1, 0, 1), -2);
        // The very first and the very last of the 720 orders: the widest hose first is the best.
        String[] hoses = new String[6];
        String[] turned = new String[6];
        for (int i = 0; i < 6; i++) {
            hoses[i] = "car old 10 hose " + (10 + 10 * i) + ";";
            turned[5 - i] = hoses[i];
        }
        p = Calls.pipe(String.join("", hoses), "dump 1;");
        p.order(0, 3000, 0, 0);
        order("the widest first", p, 6, 5, 4, 3, 2, 1);
        p.order(0, 3000, 0, 1);
        order("the widest last", p, 1, 2, 3, 4, 5, 6);
        sameAsAllOrders(hoses, "dump 1;", 3000);
        sameAsAllOrders(turned, "dump 1;", 3000);
    }

    /** Tells each order as a TRAIN of its own, rising, and keeps the first of the least and of the greatest. */
    private static void sameAsAllOrders(String[] cars, String handle, int speed) {
        int[][] least = {{-1}};
        int[][] greatest = {{-1}};
        tryOrders(cars, new int[0], order -> {
            StringBuilder text = new StringBuilder();
            for (int c : order) {
                text.append(cars[c - 1]);
            }
            int span = Calls.pipe(text.toString(), handle).run(0, speed, 0);
            int ranked = span < 0 ? Calls.MOST : span;
            if (least[0][0] < 0 || ranked < least[0][0]) {
                least[0] = withSpan(ranked, order);
            }
            if (ranked > greatest[0][0]) {
                greatest[0] = withSpan(ranked, order);
            }
        });
        TrainPipe p = Calls.pipe(String.join("", cars), handle);
        sameOrder("the least of all", p, p.order(0, speed, 0, 0), least[0]);
        sameOrder("the greatest of all", p, p.order(0, speed, 0, 1), greatest[0]);
    }

    private static void tryOrders(String[] cars, int[] begun, Consumer<int[]> each) {
        if (begun.length == cars.length) {
            each.accept(begun);
        }
        for (int c = 1; c <= cars.length; c++) {
            int car = c;
            if (Arrays.stream(begun).noneMatch(other -> other == car)) {
                int[] longer = Arrays.copyOf(begun, begun.length + 1);
                longer[begun.length] = c;
                tryOrders(cars, longer, each);
            }
        }
    }

    private static int[] withSpan(int span, int[] order) {
        int[] row = new int[order.length + 1];
        row[0] = span;
        System.arraycopy(order, 0, row, 1, order.length);
        return row;
    }

    private static void sameOrder(String what, TrainPipe p, int span, int[] due) {
        Check.due(what, span, due[0] == Calls.MOST ? -1 : due[0]);
        order(what, p, Arrays.copyOfRange(due, 1, due.length));
    }

    /** W is 110: only the last CAR of an order is dumped, so that the order's last one tells the SPAN. */
    private static TrainPipe quickAndSlow() {
        return Calls.pipe("car quick 10 hose 0;car slow 10 hose 0;", "both;dump 1;");
    }

    private static void leastAndGreatest() {
        TrainPipe p = quickAndSlow();
        Check.due("6, 4, 0", p.order(0, 6, 0, 0), 4);
        order("the quick one last", p, 2, 1);
        Check.due("6, 6, 5, 3, 0", p.order(0, 6, 0, 1), 14);
        order("the slow one last", p, 1, 2);
        // Its own hose: a shut one keeps the dump from all behind it.
        p = Calls.pipe("car old 10 hose 0 out;car quick 10;", "dump 1;");
        Check.due("the shut one behind", p.order(0, 20, 0, 0) > 0, true);
        order("the shut one behind", p, 2, 1);
        Check.due("the shut one ahead", p.order(0, 20, 0, 1), -1);
        order("the shut one ahead", p, 1, 2);
        // Its own stuck, out and WEIGHT.
        p = Calls.pipe("car old 10 hose 0;car quick 10 hose 0 stuck off;car quick 10 hose 0 out;", "both;dump 1;");
        Check.due("W 120: 1.3", p.order(0, 1, 0, 0), 0);
        order("the old one last", p, 2, 3, 1);
        // The TRAIN itself keeps its order.
        Check.due("the train is as it was", p.car(1, 0), 0);
        Check.due("its run, too", p.run(0, 1, 0), -1);
    }

    private static void notStoppingIsGreatest() {
        TrainPipe p = Calls.pipe("car quick 10 hose 0;car slow 10 hose 0;car old 10 hose 0 out;", "both;dump 1;");
        Check.due("the least", p.order(0, 6, 0, 0), 4);
        order("the quick one last, first of two", p, 2, 3, 1);
        Check.due("the greatest does not stop", p.order(0, 6, 0, 1), -1);
        order("the out one last, first of two", p, 1, 2, 3);
        p = Calls.pipe("car old 10 hose 0 out;car quick 10 hose 0;car slow 10 hose 0;", "both;dump 1;");
        Check.due("behind orders that stop", p.order(0, 6, 0, 1), -1);
        order("the out one last", p, 2, 3, 1);
    }

    private static void theFirstOfLike() {
        TrainPipe p = Calls.pipe("car slow 10 hose 0;car quick 10 hose 0;car slow 10 hose 0;", "both;dump 1;");
        p.order(0, 6, 0, 0);
        order("the least, first of two", p, 1, 3, 2);
        p.order(0, 6, 0, 1);
        order("the greatest, first of four", p, 1, 2, 3);
        p = Calls.pipe("car quick 10 hose 0;car slow 10 hose 0;car slow 10 hose 0;", "both;dump 1;");
        p.order(0, 6, 0, 0);
        order("by their numbers", p, 2, 3, 1);
        p.order(0, 6, 0, 1);
        order("the greatest by their numbers", p, 1, 2, 3);
        // Less by one, and behind an order that is not.
        p = Calls.pipe("car quick 10 hose 0;car old 10 hose 0;", "both;dump 1;");
        Check.due("0 is less than 1", p.order(0, 2, 0, 0), 0);
        order("0 is less than 1", p, 2, 1);
        Check.due("1 is greater than 0", p.order(0, 2, 0, 1), 1);
        order("1 is greater than 0", p, 1, 2);
        // In SNOW 50 the quick one brakes by 1.09, the old one by 0.7.
        Check.due("in snow", p.order(0, 1, 50, 0), 0);
        order("in snow", p, 2, 1);
        Check.due("in snow, the greatest", p.order(0, 1, 50, 1), 1);
        // Sorted as rows of numbers, of 3, 4 and 5 CARS with many like ones.
        String quick = "car quick 10;";
        String out = "car old 10 out;";
        String shut = "car old 10 hose 0 out;";
        sameAsAllOrders(new String[] {shut, quick, out}, "dump 1;", 20);
        sameAsAllOrders(new String[] {out, shut, quick}, "dump 1;", 20);
        sameAsAllOrders(new String[] {out, shut, quick, out}, "dump 1;", 20);
        sameAsAllOrders(new String[] {shut, out, quick, shut, quick}, "dump 1;", 20);
        sameAsAllOrders(new String[] {quick, "car slow 10;", "car old 10;", out}, "both;dump 1;", 99);
        p = Calls.pipe("car quick 10 hose 0;car slow 10 hose 0;car slow 10 hose 0;", "both;dump 1;");
        Check.due("all at rest", p.order(0, 0, 0, 0), 0);
        order("all alike, least", p, 1, 2, 3);
        Check.due("all at rest, greatest", p.order(0, 0, 0, 1), 0);
        order("all alike, greatest", p, 1, 2, 3);
    }

    private static void whatZeroOrOne() {
        TrainPipe p = quickAndSlow();
        Check.due("what 0", p.order(0, 6, 0, 0), 4);
        Check.due("what 1", p.order(0, 6, 0, 1), 14);
        for (int what : new int[] {-1, 2, Calls.MOST, Calls.LEAST}) {
            Check.due("what " + what, p.order(0, 6, 0, what), -2);
        }
    }

    private static void noneStops() {
        TrainPipe p = Calls.pipe("car old 10;car quick 10;car slow 10;", "");
        Check.due("none, the least", p.order(0, 1, 0, 0), -1);
        order("none, the least", p, 1, 2, 3);
        Check.due("none, the greatest", p.order(0, 1, 0, 1), -1);
        order("none, the greatest", p, 1, 2, 3);
        p = quickAndSlow();
        Check.due("another order", p.order(0, 6, 0, 0), 4);
        Check.handle(p, "");
        Check.due("then none stops", p.order(0, 6, 0, 0), -1);
        order("the order of it", p, 1, 2);
    }

    private static void noOrder() {
        TrainPipe p = quickAndSlow();
        for (int[] r : NO_RUNS) {
            Check.due("order " + r[0] + " " + r[1] + " " + r[2], p.order(r[0], r[1], r[2], 0), -2);
            Check.due("greatest " + r[0] + " " + r[1] + " " + r[2], p.order(r[0], r[1], r[2], 1), -2);
        }
        for (int[] r : EDGE_RUNS) {
            Check.due("order " + r[0] + " " + r[1] + " " + r[2], p.order(r[0], r[1], r[2], 0) >= 0, true);
        }
        p = Calls.pipe(Calls.cars(16), "");
        Check.due("sixteen cars", p.order(-40, 1, 0, 0), -2);
    }

    private static void theLatestOrder() {
        TrainPipe p = quickAndSlow();
        p.order(0, 6, 0, 0);
        p.order(0, 6, 0, 2);
        p.order(41, 6, 0, 1);
        order("behind one that was -2", p, 2, 1);
        Check.train(p, SHUT.repeat(7));
        p.order(0, 6, 0, 1);
        order("behind seven cars", p, 2, 1);
        p.run(0, 6, 0);
        order("behind a run", p, 2, 1);
        Check.train(p, SHUT.repeat(3));
        p.order(0, 6, 0, 1);
        order("of three cars", p, 1, 2, 3);
        Check.train(p, SHUT);
        p.order(0, 6, 0, 1);
        order("of one car", p, 1);
    }

    private static void noneOrdered() {
        TrainPipe p = quickAndSlow();
        for (int k = -1; k <= 6; k++) {
            Check.due("ahead of any " + k, p.ordered(k), -1);
        }
        p.order(0, 6, 0, 2);
        p.run(0, 6, 0);
        Check.due("behind one that was -2", p.ordered(0), -1);
        p.order(0, 6, 0, 0);
        for (int k : new int[] {-1, 2, 5, 6, 7, Calls.MOST, Calls.LEAST}) {
            Check.due("ordered " + k, p.ordered(k), -1);
        }
        p = Calls.pipe(SHUT.repeat(6), "");
        p.order(0, 6, 0, 0);
        Check.due("the sixth", p.ordered(5), 6);
        Check.due("no seventh", p.ordered(6), -1);
    }

    private static void cutOut() {
        Sentence.holds(HERE, "CUT OUT (10 CARS at most):", BoundsOfRuns::tenCarsAtMost);
        Sentence.holds(HERE, "the greatest k so that, whichever k of the CARS that are not 'out' are out, too, the "
            + "SPAN is within a told one.", BoundsOfRuns::whicheverAreOut);
        Sentence.holds("Promise 17", "`int cut(int grade, int speed, int snow, int span)`: CUT OUT: k (0 to n);",
            BoundsOfRuns::cutZeroToAll);
        Sentence.holds("Promise 17", "NONE: not even with 0;", BoundsOfRuns::notEvenWithNone);
        Sentence.holds("Promise 17", "-2: not as told, or more than 10 CARS.", BoundsOfRuns::noCut);
    }

    private static void tenCarsAtMost() {
        // W is 190: 160 by that is 0, twice that is 1. So two CARS stop it in the first TICK, one in the second.
        TrainPipe p = Calls.pipe(LEAKING.repeat(10), "");
        Check.due("two have to brake", p.cut(0, 1, 0, 0), 8);
        Check.due("one has to brake", p.cut(0, 1, 0, 1), 9);
        Check.due("none has to brake", p.cut(-1, 1, 0, 0), 10);
        p = Calls.pipe(LEAKING.repeat(11), "");
        Check.due("eleven cars", p.cut(-1, 1, 0, 0), -2);
        // 'out' ones are CARS as well.
        p = Calls.pipe(LEAKING + "car old 10 out;".repeat(10), "");
        Check.due("eleven cars, ten of them out", p.cut(-1, 1, 0, 0), -2);
        p = Calls.pipe(LEAKING + "car old 10 out;".repeat(9), "");
        Check.due("ten cars, nine of them out", p.cut(-1, 1, 0, 0), 1);
    }

    private static void whicheverAreOut() {
        // W is 110. Both: 6, 3, 0. The quick one alone: 6, 4, 0. The slow one alone: 6, 6, 5, 3, 0.
        String quick = "car quick 10 hose 0 leak 99;";
        String slow = "car slow 10 hose 0 leak 99;";
        for (String train : new String[] {quick + slow, slow + quick}) {
            TrainPipe p = Calls.pipe(train, "");
            Check.due("less than both need", p.cut(0, 6, 0, 2), -1);
            Check.due("both need it", p.cut(0, 6, 0, 3), 0);
            Check.due("enough for the quick one alone", p.cut(0, 6, 0, 4), 0);
            Check.due("nearly enough for the slow one", p.cut(0, 6, 0, 13), 0);
            Check.due("enough for the slow one alone", p.cut(0, 6, 0, 14), 1);
            Check.due("one has to brake", p.cut(0, 6, 0, Calls.MOST), 1);
        }
        // In SNOW 50 two old ones brake by 1.45 in the first TICK, one by 0.7 and by 1.45 in the second.
        TrainPipe old = Calls.pipe(LEAKING + LEAKING, "");
        Check.due("in snow", old.cut(0, 1, 50, 0), 0);
        Check.due("in snow, one alone", old.cut(0, 1, 50, 1), 1);
        Check.due("without snow", old.cut(0, 1, 0, 0), 1);
        // Those that are 'out' stay out and are not chosen.
        TrainPipe p = Calls.pipe("car old 10 out;" + LEAKING + "car old 10 out;", "");
        Check.due("one to choose", p.cut(-1, 1, 0, 0), 1);
        Check.due("it has to brake", p.cut(0, 1, 0, 0), 0);
        Check.due("the train is as it was", p.car(2, 2), 0);
        Check.due("and its out ones", p.car(3, 2), 1);
        // Behind a longer TRAIN: one of the two has to brake, whichever of the ten was to choose there.
        p = Calls.pipe(LEAKING.repeat(10), "");
        Check.due("ten to choose", p.cut(-1, 1, 0, 0), 10);
        Check.train(p, LEAKING + "car old 10 out;" + LEAKING);
        Check.due("two to choose", p.cut(-1, 1, 0, 0), 2);
        Check.due("one of two has to brake", p.cut(0, 2, 0, Calls.MOST), 1);
    }

    private static void cutZeroToAll() {
        for (int n = 1; n <= 10; n++) {
            TrainPipe p = Calls.pipe(LEAKING.repeat(n), "");
            Check.due("all of " + n, p.cut(-40, 40, 0, 0), n);
            Check.due("all at rest of " + n, p.cut(40, 0, 0, 0), n);
            Check.due("all but one of " + n, p.cut(0, 1, 0, Calls.MOST), n - 1);
        }
        TrainPipe p = Calls.pipe("car old 10 out;", "");
        Check.due("none to choose", p.cut(-1, 1, 0, 0), 0);
    }

    private static void notEvenWithNone() {
        TrainPipe p = Calls.pipe(LEAKING, "");
        Check.due("with 0", p.cut(0, 1, 0, 0), 0);
        Check.due("not even with 0", p.cut(0, 2, 0, 0), -1);
        Check.due("its span", p.cut(0, 2, 0, 1), 0);
        p = Calls.pipe("car old 10 out;", "");
        Check.due("nothing brakes", p.cut(0, 1, 0, Calls.MOST), -1);
    }

    private static void noCut() {
        TrainPipe p = Calls.pipe(LEAKING, "");
        Check.due("span -1", p.cut(-1, 0, 0, -1), -2);
        Check.due("span least", p.cut(-1, 0, 0, Calls.LEAST), -2);
        Check.due("span 0", p.cut(-1, 0, 0, 0), 1);
        for (int[] r : NO_RUNS) {
            Check.due("cut " + r[0] + " " + r[1] + " " + r[2], p.cut(r[0], r[1], r[2], 999), -2);
        }
        for (int[] r : EDGE_RUNS) {
            Check.due("cut " + r[0] + " " + r[1] + " " + r[2], p.cut(r[0], r[1], r[2], 111000), 1);
        }
        p = Calls.pipe(Calls.cars(16), "");
        Check.due("sixteen cars", p.cut(-40, 1, 0, 0), -2);
    }
}
