/** Promises 8 to 17: what the pipe holds, who HEARS, RUNS, HELP, PARTED, ORDERS, CUT OUT. */
public final class PipeTest {
    private static final int MAX = Integer.MAX_VALUE;
    /** Cars that set by their own leak, whatever the pipe does: 40 more in the CYLINDER each TICK. */
    private static final String LONE = "car old 50 hose 0 leak 99;";

    public static void main(String[] args) {
        handleOnTheFirstCell();
        bothEnds();
        hosesAndLeaks();
        valvesSet();
        valvesLetGo();
        atThrows();
        hearing();
        easing();
        runs();
        runsWithBrakes();
        help();
        parted();
        orders();
        cutOut();
        Check.close("PipeTest");
    }

    private static void handleOnTheFirstCell() {
        TrainPipe p = Calls.pipe("car old 50;", "draw 30 1;let 99;");
        Check.due("draw", p.at(1, 0, 0), 677);
        Check.due("draw, behind the hose", p.at(1, 1, 0), 693);
        Check.due("let up to full", p.at(2, 0, 0), 699);
        Check.due("let, behind the hose", p.at(2, 1, 0), 694);
        p = Calls.pipe("feed 5;car old 50;", "draw 30 1;let 99;");
        Check.due("let 5", p.at(2, 0, 0), 684);
        Check.due("let 5, behind the hose", p.at(2, 1, 0), 691);
        p = Calls.pipe("full 300;car old 50 hose 0;", "draw 99 1;");
        int[] drawn = {300, 201, 102, 3, 0, 0};
        for (int t = 0; t < drawn.length; t++) {
            Check.due("the last step goes on " + t, p.at(t, 0, 0), drawn[t]);
            Check.due("a shut hose " + t, p.at(t, 1, 0), 300);
        }
        p = Calls.pipe("full 500;car old 50 hose 0;", "hold 2;dump 1;let 2;hold 1;");
        int[] steps = {500, 500, 500, 0, 40, 80, 80, 80};
        for (int t = 0; t < steps.length; t++) {
            Check.due("steps in their ticks " + t, p.at(t, 0, 0), steps[t]);
        }
        Check.due("at the last tick", p.at(600, 0, 0), 80);
    }

    private static void bothEnds() {
        TrainPipe p = Calls.pipe("full 500;car old 50 hose 0;car old 50 hose 0;", "both;draw 9 1;dump 1;let 1;hold 1;");
        int[] ends = {500, 491, 0, 40, 40};
        for (int t = 0; t < ends.length; t++) {
            Check.due("the first cell " + t, p.at(t, 0, 0), ends[t]);
            Check.due("the last cell " + t, p.at(t, 2, 0), ends[t]);
            Check.due("the cell between " + t, p.at(t, 1, 0), 500);
        }
        p = Calls.pipe("car old 50;car old 50;", "both;dump 1;");
        Calls.state(p, 1, 1, 350, 680, 40);
        Calls.state(p, 1, 2, 175, 680, 40);
        Check.due("all hoses at once", p.at(1, 0, 0), 175);
    }

    private static void hosesAndLeaks() {
        TrainPipe p = Calls.pipe("car old 50;car old 50 hose 10 leak 40;", "dump 1;");
        Check.due("leak, cut", p.at(1, 2, 0), 672);
        Calls.state(p, 1, 1, 525, 680, 40);
        p = Calls.pipe("car old 50 hose 30 out leak 1;", "dump 1;");
        Calls.state(p, 1, 1, 648, 700, 0);
        Check.due("a narrow hose, cut", p.at(1, 0, 0), 52);
        p = Calls.pipe("car old 50 leak 1 hose 0;", "hold 1;");
        Check.due("less than a whole is not lost", p.at(1, 1, 0), 700);
        p = Calls.pipe("full 900;car old 50 leak 1 hose 0 out;", "hold 1;");
        Check.due("nor of 900", p.at(600, 1, 0), 900);
    }

    private static void valvesSet() {
        TrainPipe p = Calls.pipe("car old 50;", "both;dump 1;");
        Calls.state(p, 12, 1, 0, 460, 480);
        Calls.state(p, 13, 1, 0, 440, 500);
        Calls.state(p, 14, 1, 0, 420, 500);
        Calls.state(p, 34, 1, 0, 20, 500);
        Calls.state(p, 35, 1, 0, 20, 500);
        p = Calls.pipe("car quick 50;", "both;dump 1;");
        Calls.state(p, 1, 1, 0, 670, 60);
        Calls.state(p, 23, 1, 0, 10, 500);
        Calls.state(p, 24, 1, 0, 10, 500);
        p = Calls.pipe("car slow 50;", "both;dump 1;");
        Calls.state(p, 20, 1, 0, 460, 480);
        Calls.state(p, 56, 1, 0, 28, 500);
        Calls.state(p, 57, 1, 0, 28, 500);
        p = Calls.pipe("car quick 50;", "draw 30 1;hold 1;");
        Calls.state(p, 1, 1, 693, 700, 0);
        Calls.state(p, 2, 1, 681, 689, 22);
        // 700 less 21 is below by more than 20, less 20 is not.
        p = Calls.pipe("full 400;car old 50 hose 0 leak 50;", "hold 1;");
        Calls.state(p, 1, 1, 380, 400, 0);
        p = Calls.pipe("full 420;car old 50 hose 0 leak 50;", "hold 1;");
        Calls.state(p, 1, 1, 399, 400, 40);
        p = Calls.pipe("full 420;car old 50 hose 0 leak 50 stuck off;", "hold 1;");
        Calls.state(p, 1, 1, 399, 420, 0);
        p = Calls.pipe("full 420;car quick 50 hose 0 leak 50 stuck off;", "hold 1;");
        Calls.state(p, 1, 1, 399, 420, 0);
        p = Calls.pipe("full 420;car old 50 hose 0 leak 50 stuck on;", "hold 1;");
        Calls.state(p, 1, 1, 399, 400, 40);
        p = Calls.pipe("full 420;car old 50 hose 0 leak 50 out;", "hold 1;");
        Calls.state(p, 1, 1, 399, 420, 0);
        p = Calls.pipe("full 600;car slow 50 hose 0 leak 50;", "hold 1;");
        Calls.state(p, 1, 1, 570, 600, 0);
        p = Calls.pipe("full 620;car slow 50 hose 0 leak 50;", "hold 1;");
        Calls.state(p, 1, 1, 589, 608, 24);
    }

    private static void valvesLetGo() {
        String handle = "both;dump 1;let 99;";
        TrainPipe p = Calls.pipe("full 300;feed 99;car old 50;", handle);
        Calls.state(p, 3, 1, 198, 240, 120);
        Calls.state(p, 4, 1, 287, 250, 90);
        Calls.state(p, 5, 1, 290, 260, 60);
        Calls.state(p, 6, 1, 290, 270, 30);
        Calls.state(p, 7, 1, 290, 280, 0);
        Calls.state(p, 8, 1, 300, 280, 0);
        Check.due("easy", p.easy(), 7);
        p = Calls.pipe("full 300;feed 99;car old 50 keep 1;", handle);
        Calls.state(p, 4, 1, 287, 250, 100);
        Calls.state(p, 7, 1, 290, 280, 100);
        Check.due("not easy", p.easy(), -1);
        p = Calls.pipe("full 300;feed 99;car old 50 keep 2;", handle);
        Calls.state(p, 4, 1, 287, 250, 120);
        p = Calls.pipe("full 300;feed 99;car old 50 stuck on;", handle);
        Calls.state(p, 7, 1, 290, 280, 120);
        p = Calls.pipe("full 300;feed 99;car quick 50;", handle);
        Calls.state(p, 3, 1, 184, 210, 180);
        Calls.state(p, 4, 1, 276, 220, 140);
        Calls.state(p, 8, 1, 290, 260, 0);
        Calls.state(p, 12, 1, 300, 290, 0);
        p = Calls.pipe("full 300;feed 99;car slow 50;", handle);
        Calls.state(p, 3, 1, 198, 264, 72);
        Calls.state(p, 4, 1, 287, 274, 60);
    }

    private static void atThrows() {
        TrainPipe p = Calls.pipe("car old 50;car old 50;", "dump 1;");
        Check.thrown("tick -1", () -> p.at(-1, 0, 0));
        Check.thrown("tick 601", () -> p.at(601, 0, 0));
        Check.thrown("cell -1", () -> p.at(0, -1, 0));
        Check.thrown("cell 3", () -> p.at(0, 3, 0));
        Check.thrown("tank of cell 0", () -> p.at(0, 0, 1));
        Check.thrown("cylinder of cell 0", () -> p.at(0, 0, 2));
        Check.thrown("tank of cell 3", () -> p.at(0, 3, 1));
        Check.thrown("what 3", () -> p.at(0, 1, 3));
        Check.thrown("what -1", () -> p.at(0, 1, -1));
        Calls.state(p, 0, 2, 700, 700, 0);
        Check.due("tick 600", p.at(600, 2, 2), 500);
    }

    private static void hearing() {
        TrainPipe p = Calls.pipe("car old 50;car old 50;car old 50 out;", "hold 3;dump 1;");
        Check.due("hears 1", p.hears(1), 4);
        Check.due("hears 2", p.hears(2), 5);
        Check.due("an out one", p.hears(3), -1);
        Check.due("hears 0", p.hears(0), -1);
        Check.due("hears 4", p.hears(4), -1);
        Check.due("hears -1", p.hears(-1), -1);
        p = Calls.pipe(LONE, "");
        Check.due("at once", p.hears(1), 1);
        p = Calls.pipe("car old 50;", "hold 99;".repeat(6) + "hold 5;dump 1;");
        Check.due("in the 600th", p.hears(1), 600);
        p = Calls.pipe("car old 50;", "hold 99;".repeat(6) + "hold 6;dump 1;");
        Check.due("in the 601st", p.hears(1), -1);
    }

    private static void easing() {
        TrainPipe p = Calls.pipe("full 300;feed 99;car old 50;car old 50 out;", "both;hold 10;dump 1;let 99;");
        Check.due("nobody heard yet", p.easy() > 11, true);
        p = Calls.pipe("full 300;feed 99;car old 50;", "both;hold 10;dump 1;let 99;");
        Check.due("ten later", p.easy(), 17);
        p = Calls.pipe("full 300;feed 99;car old 50;", "both;dump 1;let 6;dump 1;");
        Check.due("for one tick", p.easy(), 7);
        p = Calls.pipe("full 300;feed 99;car old 50;car old 50 stuck on;", "both;dump 1;let 99;");
        Check.due("one stays on", p.easy(), -1);
        p = Calls.pipe("full 300;feed 99;car old 50;", "both;" + "hold 99;".repeat(5) + "hold 98;dump 1;let 6;");
        Check.due("in the 600th", p.easy(), 600);
        p = Calls.pipe("full 300;feed 99;car old 50;", "both;" + "hold 99;".repeat(6) + "dump 1;let 6;");
        Check.due("in the 601st", p.easy(), -1);
    }

    private static void runs() {
        TrainPipe p = new TrainPipe();
        Check.due("ran ahead of any", p.ran(1), -1);
        Check.due("-1 a tick", p.run(-1, 600, 0), 179700);
        Check.due("in 600 ticks", p.ran(0), 600);
        Check.due("stopped", p.ran(2), 0);
        Check.due("not quite", p.run(-1, 601, 0), -1);
        Check.due("600, if not", p.ran(0), 600);
        Check.due("fastest at first", p.ran(1), 601);
        Check.due("1 is left", p.ran(2), 1);
        Check.due("steepest", p.run(40, 3000, 90), -1);
        Check.due("its fastest", p.ran(1), 27000);
        Check.due("steepest up", p.run(-40, 3000, 0), 111000);
        Check.due("its ticks", p.ran(0), 75);
        int[][] wrong = {{41, 5, 0}, {-41, 5, 0}, {0, -1, 0}, {0, 3001, 0}, {0, 5, -1}, {0, 5, 91}};
        for (int[] w : wrong) {
            Check.due("not as told", p.run(w[0], w[1], w[2]), -2);
        }
        Check.due("ran stays", p.ran(0), 75);
        Check.due("ran 3", p.ran(3), -1);
        Check.due("ran -1", p.ran(-1), -1);
        Check.due("at rest", p.run(40, 0, 0), 0);
        Check.due("no tick", p.ran(0), 0);
        Check.due("no speed", p.ran(1), 0);
    }

    private static void runsWithBrakes() {
        TrainPipe p = Calls.pipe(LONE + LONE, "");
        Check.due("W 190, B 80 more a tick", p.run(0, 100, 0), 654);
        Check.due("ticks", p.ran(0), 11);
        // SNOW 50 halves each CYLINDER: as with one of the two.
        Check.due("in snow", p.run(0, 100, 50), 995);
        p = Calls.pipe(LONE + "car old 50 hose 0 leak 99 out;", "");
        Check.due("an out one weighs, but does not brake", p.run(0, 100, 0), 995);
        Check.due("its ticks", p.ran(0), 16);
        p = Calls.pipe("car old 50;", "dump 9;");
        Check.due("a dump", p.run(0, 100, 0), 817);
        p.parted(1, 1, 0, 50, 0);
        p.help(0, 50, 0, 9999);
        Check.due("help is no run", p.ran(1), 100);
    }

    private static void help() {
        TrainPipe p = new TrainPipe();
        Check.due("at once", p.help(0, 100, 0, 817), 0);
        Check.due("too late at once", p.help(0, 100, 0, 816), -1);
        Check.due("tick 1", p.help(0, 100, 0, 917), 1);
        Check.due("tick 399", p.help(0, 100, 0, 40816), 399);
        Check.due("tick 400", p.help(0, 100, 0, 40817), 400);
        Check.due("400 at most", p.help(0, 100, 0, MAX), 400);
        Check.due("at rest", p.help(40, 0, 0, 0), 400);
        Check.due("span -1", p.help(0, 100, 0, -1), -2);
        Check.due("grade 41", p.help(41, 100, 0, 5), -2);
        Check.due("speed 3001", p.help(0, 3001, 0, 5), -2);
        Check.due("snow 91", p.help(0, 100, 91, 5), -2);
        Check.due("stops by itself", p.help(-10, 100, 0, 450), 400);
        String four = "car old 50 hose 20;".repeat(4);
        int oneEnd = Calls.pipe(four, "dump 1;").run(0, 100, 0);
        int bothEnds = Calls.pipe(four, "both;dump 1;").run(0, 100, 0);
        Check.due("both ends are sooner", bothEnds < oneEnd, true);
        p = Calls.pipe(four, "both;");
        Check.due("the dump is at both ends", p.help(0, 100, 0, bothEnds), 0);
        Check.due("and no better", p.help(0, 100, 0, bothEnds - 1), -1);
        p = Calls.pipe(four, "");
        Check.due("the dump is at one end", p.help(0, 100, 0, oneEnd), 0);
        Check.due("and not at both", p.help(0, 100, 0, oneEnd - 1), -1);
        p = Calls.pipe("car old 50 out;", "");
        Check.due("no brake", p.help(0, 100, 0, MAX), -1);
    }

    private static void parted() {
        TrainPipe p = Calls.pipe("car old 50;car old 50;", "");
        Check.due("in the first tick", p.parted(1, 1, 0, 100, 0), 654);
        Check.due("in the fifth", p.parted(1, 5, 0, 100, 0), 1054);
        Check.due("in the last", p.parted(1, 600, 0, 1, 0), 599);
        Check.due("in the last, too fast", p.parted(1, 600, 0, 100, 0), -1);
        Check.due("at rest", p.parted(1, 1, 0, 0, 0), 0);
        int[][] wrong = {{0, 1, 0, 5, 0}, {2, 1, 0, 5, 0}, {1, 0, 0, 5, 0}, {1, 601, 0, 5, 0}, {1, 1, 41, 5, 0},
            {1, 1, 0, 3001, 0}, {1, 1, 0, 5, 91}};
        for (int[] w : wrong) {
            Check.due("not as told", p.parted(w[0], w[1], w[2], w[3], w[4]), -2);
        }
        p = new TrainPipe();
        Check.due("one car", p.parted(1, 1, 0, 100, 0), -2);
        // Behind the parting air still goes through the other hoses: a third CAR sets later than the two at it.
        p = Calls.pipe("car old 50;car old 50;car old 50 hose 10;", "");
        Check.due("3 cars, 1", p.parted(1, 1, 0, 100, 0) > p.parted(2, 1, 0, 100, 0), true);
        p = Calls.pipe("car old 50;car old 50;car old 50 hose 0;", "");
        int shut = p.parted(1, 1, 0, 100, 0);
        Check.train(p, "car old 50;car old 50;car old 50 out;");
        Check.due("a shut hose behind it", shut, p.parted(1, 1, 0, 100, 0));
    }

    private static void orders() {
        TrainPipe p = Calls.pipe("car quick 50;car slow 10;", "dump 9;");
        Check.due("least", p.order(0, 30, 0, 0), 89);
        Check.due("least, first", p.ordered(0), 1);
        Check.due("least, second", p.ordered(1), 2);
        Check.due("ordered 2", p.ordered(2), -1);
        Check.due("ordered -1", p.ordered(-1), -1);
        Check.due("greatest", p.order(0, 30, 0, 1), 104);
        Check.due("greatest, first", p.ordered(0), 2);
        Check.due("greatest, second", p.ordered(1), 1);
        Check.due("what 2", p.order(0, 30, 0, 2), -2);
        Check.due("what -1", p.order(0, 30, 0, -1), -2);
        Check.due("grade", p.order(-41, 30, 0, 0), -2);
        Check.due("speed", p.order(0, -1, 0, 0), -2);
        Check.due("snow", p.order(0, 30, 91, 0), -2);
        Check.due("ordered stays", p.ordered(0), 2);
        Check.train(p, "car old 50;".repeat(6));
        Check.due("ordered stays behind a train", p.ordered(1), 1);
        Check.due("6 cars", p.order(0, 30, 0, 0) > 0, true);
        for (int k = 0; k <= 6; k++) {
            Check.due("of like ones the first " + k, p.ordered(k), k < 6 ? k + 1 : -1);
        }
        Check.train(p, "car old 50;".repeat(7));
        Check.due("7 cars", p.order(0, 30, 0, 0), -2);
        Check.due("6 stay", p.ordered(5), 6);
        p = Calls.pipe("car old 50;car quick 50;car slow 50;", "");
        Check.due("none stops, least", p.order(0, 100, 0, 0), -1);
        Check.due("none stops, first", p.ordered(0), 1);
        Check.due("none stops, greatest", p.order(0, 100, 0, 1), -1);
        Check.due("none stops, third", p.ordered(2), 3);
        // Only behind a whole hose does the quick one hear: the shut one has to come behind it.
        p = Calls.pipe("car old 50 hose 0 out;car quick 50;", "dump 1;");
        Check.due("one order stops", p.order(0, 20, 0, 0) > 0, true);
        Check.due("the quick one first", p.ordered(0), 2);
        Check.due("one does not", p.order(0, 20, 0, 1), -1);
        Check.due("the shut one first", p.ordered(0), 1);
    }

    private static void cutOut() {
        TrainPipe p = Calls.pipe(LONE + LONE, "");
        Check.due("none", p.cut(0, 100, 0, 653), -1);
        Check.due("both are needed", p.cut(0, 100, 0, 654), 0);
        Check.due("still", p.cut(0, 100, 0, 994), 0);
        Check.due("one may be out", p.cut(0, 100, 0, 995), 1);
        Check.due("one is needed", p.cut(0, 100, 0, MAX), 1);
        Check.due("up a grade none is", p.cut(-10, 100, 0, 450), 2);
        Check.due("span -1", p.cut(0, 100, 0, -1), -2);
        Check.due("grade", p.cut(41, 100, 0, 1), -2);
        Check.due("speed", p.cut(0, 3001, 0, 1), -2);
        Check.due("snow", p.cut(0, 100, -1, 1), -2);
        p = Calls.pipe(LONE + "car old 50 out;" + LONE, "");
        Check.due("out ones are no choice", p.cut(-10, 100, 0, 450), 2);
        p = Calls.pipe("car old 50 out;", "");
        Check.due("all out, up", p.cut(-10, 100, 0, 450), 0);
        Check.due("all out", p.cut(0, 100, 0, MAX), -1);
        p = Calls.pipe(LONE.repeat(10), "");
        Check.due("10 cars", p.cut(-40, 10, 0, 9), 10);
        Check.due("9 of 10", p.cut(0, 10, 0, MAX), 9);
        p = Calls.pipe(LONE.repeat(11), "");
        Check.due("11 cars", p.cut(-40, 10, 0, 9), -2);
        // The lighter brake is the worse one to be left with: whichever are out counts.
        p = Calls.pipe(LONE + "car slow 50 hose 0 leak 99;", "");
        int slowAlone = Calls.pipe("car old 50 out;" + "car slow 50 hose 0 leak 99;", "").run(0, 100, 0);
        Check.due("by the worst choice", p.cut(0, 100, 0, slowAlone), 1);
        Check.due("less is too little", p.cut(0, 100, 0, slowAlone - 1), 0);
    }
}
