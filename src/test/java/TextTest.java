/** Promises 1 to 7 and 27: the tape, the texts and their FAULTS, what is told of CARS. */
public final class TextTest {
    public static void main(String[] args) {
        aNewObject();
        theTape();
        trainsAsTold();
        trainFaults();
        trainLength();
        carsAndTheSeventeenth();
        handlesAsTold();
        handleFaults();
        handleLength();
        faultsAndWhatStays();
        carFacts();
        counts();
        Check.close("TextTest");
    }

    private static void aNewObject() {
        TrainPipe p = new TrainPipe();
        Check.due("cars", p.count(0), 1);
        int[] facts = {0, 50, 0, 0, 0, 100, 0};
        for (int what = 0; what <= 6; what++) {
            Check.due("new car " + what, p.car(1, what), facts[what]);
        }
        Check.due("full", p.at(0, 0, 0), 700);
        Check.due("the empty handle holds", p.at(600, 1, 0), 700);
        Check.due("steps", p.count(1), 0);
        Check.due("days", p.count(2), 0);
        Check.due("ticks", p.count(3), 0);
        Check.due("tape", p.count(4), 0);
        Check.due("fault", p.fault(), 0);
        Check.due("ran", p.ran(0), -1);
        Check.due("ordered", p.ordered(0), -1);
        Check.due("fitAt", p.fitAt(0), -1);
        Check.due("walked", p.walked(0), -1);
        Check.due("suspect", p.suspect(0), -1);
    }

    private static void theTape() {
        TrainPipe p = new TrainPipe();
        Check.due("end of nothing", p.end(1), false);
        Check.due("end 0 of nothing", p.end(0), true);
        for (int i = 1; i <= 37; i++) {
            Check.due("feed " + i, p.feed(0, 0, 0, 0, 0), 20 * i);
        }
        Check.due("741 bytes", p.feed(1, 1, 1, 1, 1), -1);
        Check.due("tape of 740", p.count(4), 740);
        Check.due("end 741", p.end(741), false);
        Check.due("end -1", p.end(-1), false);
        Check.due("end 740", p.end(740), true);
        Check.due("end 721", p.end(721), true);
        Check.due("721 and 20", p.feed(1, 1, 1, 1, 1), -1);
        Check.due("none came", p.count(4), 721);
        Check.due("end 720", p.end(720), true);
        Check.due("720 and 20", p.feed(1, 1, 1, 1, 1), 740);
        Check.due("end 3", p.end(3), true);
        Check.due("end 4 of 3", p.end(4), false);
        // The highest byte first: "car ", "old ", "11;\n", and two numbers of blanks.
        p.end(0);
        p.feed(0x63617220, 0x6f6c6420, 0x31313b0a, 0x20202020, 0x20202020);
        Check.due("by bytes", p.train(), 1);
        Check.due("its weight", p.car(1, 1), 11);
        p.feed(-1, -1, -1, -1, -1);
        Check.due("bytes of 255", p.train(), -1);
        Check.due("are no tokens", p.fault(), 1);
    }

    private static void trainsAsTold() {
        Calls.goodTrain("car old 10;", 1);
        Calls.goodTrain("car old 99;", 1);
        Calls.goodTrain("car old 099;", 1);
        Calls.goodTrain("full 300;car old 10;", 2);
        Calls.goodTrain("full 900;feed 1;car old 10;", 3);
        Calls.goodTrain("car old 10;feed 99;", 2);
        Calls.goodTrain("car\nold\n10\n;\n", 1);
        Calls.goodTrain("  car  old 10 ; car slow 10;", 2);
        Calls.goodTrain("car quick 10 stuck on out hose 0 leak 0 keep 0;", 1);
        Calls.goodTrain("car quick 10 keep 3 leak 99 hose 100 stuck off out;", 1);
        Calls.goodTrain("car quick 10 leak 00;car slow 10 leak 1;", 2);
    }

    private static void trainFaults() {
        Calls.badTrain("", 0, 1);
        Calls.badTrain("  ", 2, 1);
        Calls.badTrain("full 700;  ", 11, 1);
        Calls.badTrain(";", 0, 1);
        Calls.badTrain("car old 50;;", 11, 1);
        Calls.badTrain("car", 3, 1);
        Calls.badTrain("car ", 4, 1);
        Calls.badTrain("car old", 7, 1);
        Calls.badTrain("car old 50", 10, 1);
        Calls.badTrain("car old 50 ", 11, 1);
        Calls.badTrain("car old 50 keep", 15, 1);
        Calls.badTrain("car old 50 keep;", 15, 1);
        Calls.badTrain("car old 50 stuck;", 16, 1);
        Calls.badTrain("car old 50 stuck 1;", 17, 1);
        Calls.badTrain("car old 50 on;", 11, 1);
        Calls.badTrain("car old out;", 8, 1);
        Calls.badTrain("car 50;", 4, 1);
        Calls.badTrain("cars old 50;", 0, 1);
        Calls.badTrain("carold 50;", 0, 1);
        Calls.badTrain("car old50;", 4, 1);
        Calls.badTrain("car old 50x;", 8, 1);
        Calls.badTrain("car old 0050;", 8, 1);
        Calls.badTrain("car old 50 \t;", 11, 1);
        Calls.badTrain("car old 50,", 10, 1);
        Calls.badTrain("car old -50;", 8, 1);
        Calls.badTrain("car Old 50;", 4, 1);
        Calls.badTrain("car old 50 50;", 11, 1);
        Calls.badTrain("full;", 4, 1);
        Calls.badTrain("full old;", 5, 1);
        Calls.badTrain("700;", 0, 1);
        Calls.badTrain("out;", 0, 1);
        Calls.badTrain("car old 9;", 8, 2);
        Calls.badTrain("car old 100;", 8, 2);
        Calls.badTrain("full 299;", 5, 2);
        Calls.badTrain("full 901;", 5, 2);
        Calls.badTrain("feed 0;", 5, 2);
        Calls.badTrain("feed 100;", 5, 2);
        Calls.badTrain("car old 50 keep 4;", 16, 2);
        Calls.badTrain("car old 50 leak 100;", 16, 2);
        Calls.badTrain("car old 50 hose 101;", 16, 2);
        Calls.badTrain("full 700;full 1;", 9, 3);
        Calls.badTrain("feed 7;car old 50;feed 7;", 18, 3);
        Calls.badTrain("car old 50 out keep 1 out;", 22, 3);
        Calls.badTrain("car old 50 keep 1 keep 9;", 18, 3);
        Calls.badTrain("car old 50 leak 1 leak 1;", 18, 3);
        Calls.badTrain("car old 50 hose 1 hose 1;", 18, 3);
        Calls.badTrain("car old 50 stuck on stuck off;", 20, 3);
        Calls.badTrain("car old 50 out keep 1 leak 1 hose 1 stuck on out;", 45, 3);
        Calls.badTrain("full 400;car old 50;car old 5;", 28, 2);
    }

    private static void trainLength() {
        Calls.goodTrain("car old 50;" + Calls.blanks(689), 1);
        Calls.badTrain("car old 50;" + Calls.blanks(690), 700, 1);
        Calls.badTrain("car old 50;" + Calls.blanks(728), 700, 1);
        Calls.badTrain("car old 5;" + Calls.blanks(728), 8, 2);
        Calls.badTrain(Calls.blanks(740), 700, 1);
        Calls.badTrain(Calls.blanks(700), 700, 1);
        Calls.badTrain("car old 50;" + Calls.blanks(689) + "!", 700, 1);
        Calls.badTrain("car old 50;" + Calls.blanks(688) + "!" + Calls.blanks(20), 699, 1);
        // A token that begins ahead of the 700th byte is read whole: first a good one, then one that is none.
        Calls.badTrain("car old 50" + Calls.blanks(688) + "keep 1;", 700, 1);
        Calls.badTrain("car old 50" + Calls.blanks(688) + "keepp 1;", 698, 1);
        Calls.badTrain("car old 50" + Calls.blanks(689) + "keeeeep 1;", 699, 1);
        Calls.badTrain("car old 50 keep" + Calls.blanks(684) + "123;", 699, 2);
        Calls.badTrain("car old 50 keep" + Calls.blanks(685) + "123;", 700, 1);
        Calls.badTrain("car old 50 keep 1" + Calls.blanks(680) + "keep 1;", 697, 3);
        Calls.badTrain("full 700;" + Calls.blanks(690) + "full 700;", 699, 3);
        Calls.badTrain("full 700;" + Calls.blanks(691) + "full 700;", 700, 1);
        Calls.goodTrain("car old 50;" + Calls.blanks(678) + "car old 51;", 2);
        Calls.badTrain("car old 50;" + Calls.blanks(679) + "car old 51;", 700, 1);
    }

    private static void carsAndTheSeventeenth() {
        Calls.goodTrain("car old 50;".repeat(16), 16);
        Calls.badTrain("car old 50;".repeat(17), 176, 4);
        Calls.badTrain("car old 50;".repeat(16) + "car", 176, 4);
        Calls.badTrain("car old 50;".repeat(16) + "cat", 176, 1);
        Calls.goodTrain("car old 50;".repeat(16) + "full 700;feed 3;", 18);
        TrainPipe p = new TrainPipe();
        Check.train(p, "car old 50;".repeat(15) + "car slow 77;");
        Check.due("16 cars", p.count(0), 16);
        Check.due("the 16th", p.car(16, 1), 77);
        Check.thrown("the 17th", () -> p.car(17, 1));
    }

    private static void handlesAsTold() {
        Calls.goodHandle("", 0, 0);
        Calls.goodHandle(" \n", 0, 0);
        Calls.goodHandle("both;", 0, 0);
        Calls.goodHandle("both ; let 1;", 1, 1);
        Calls.goodHandle("let 99;hold 1;draw 1 99;draw 99 1;dump 50;", 5, 250);
        Calls.goodHandle("dump 1;".repeat(20), 20, 20);
        Calls.goodHandle("both;" + "hold 99;".repeat(20), 20, 1980);
    }

    private static void handleFaults() {
        Calls.badHandle(";", 0, 1);
        Calls.badHandle("both", 4, 1);
        Calls.badHandle("both;both;", 5, 1);
        Calls.badHandle("let 1;both;", 6, 1);
        Calls.badHandle("let;", 3, 1);
        Calls.badHandle("let", 3, 1);
        Calls.badHandle("let 5", 5, 1);
        Calls.badHandle("let 5 5;", 6, 1);
        Calls.badHandle("draw 5;", 6, 1);
        Calls.badHandle("draw 5 5 5;", 9, 1);
        Calls.badHandle("drop 5;", 0, 1);
        Calls.badHandle("5;", 0, 1);
        Calls.badHandle("car old 50;", 0, 1);
        Calls.badHandle("let 0;", 4, 2);
        Calls.badHandle("let 100;", 4, 2);
        Calls.badHandle("hold 0;", 5, 2);
        Calls.badHandle("dump 100;", 5, 2);
        Calls.badHandle("draw 0 5;", 5, 2);
        Calls.badHandle("draw 100 5;", 5, 2);
        Calls.badHandle("draw 5 0;", 7, 2);
        Calls.badHandle("draw 5 100;", 7, 2);
        Calls.badHandle("dump 1;".repeat(21), 140, 4);
        Calls.badHandle("dump 1;".repeat(20) + " let", 141, 4);
        Calls.badHandle("dump 1;".repeat(20) + "both;", 140, 1);
        Calls.badHandle("both;" + "dump 1;".repeat(21), 145, 4);
    }

    private static void handleLength() {
        Calls.goodHandle("dump 1;" + Calls.blanks(293), 1, 1);
        Calls.badHandle("dump 1;" + Calls.blanks(294), 300, 1);
        Calls.badHandle(Calls.blanks(301), 300, 1);
        Calls.goodHandle(Calls.blanks(300), 0, 0);
        Calls.badHandle("dump 1" + Calls.blanks(293) + "1234", 299, 1);
        Calls.badHandle("dump" + Calls.blanks(295) + "123", 299, 2);
        Calls.badHandle("dump" + Calls.blanks(295) + "12;", 300, 1);
        Calls.badHandle("dump 0;" + Calls.blanks(600), 5, 2);
    }

    private static void faultsAndWhatStays() {
        TrainPipe p = new TrainPipe();
        Check.train(p, "car old 5;");
        Check.due("2 by train", p.fault(), 2);
        Check.handle(p, "both both");
        Check.due("1 by handle", p.fault(), 1);
        p.car(1, 0);
        Check.due("still 1", p.fault(), 1);
        Check.train(p, "car old 60;");
        Check.due("0 again", p.fault(), 0);
        Check.train(p, "full 400;feed 3;car quick 20;car slow 1;");
        Check.due("4 lines, a fault", p.fault(), 2);
        Check.due("the older train stays", p.car(1, 1), 60);
        Check.due("its full", p.at(0, 1, 0), 700);
        Check.handle(p, "both;dump 3;");
        Check.handle(p, "let 9;let 9;x");
        Check.due("the older handle stays", p.count(3), 3);
        Check.due("its both", p.at(1, 1, 0), 0);
    }

    private static void carFacts() {
        TrainPipe p = new TrainPipe();
        Check.train(p, "car quick 12 out keep 2 leak 34 hose 56 stuck on;car slow 98 stuck off;car old 10;");
        Check.thrown("car 0", () -> p.car(0, 0));
        Check.thrown("car 4", () -> p.car(4, 0));
        Check.thrown("what -1", () -> p.car(1, -1));
        Check.thrown("what 7", () -> p.car(1, 7));
        Check.thrown("car least", () -> p.car(Integer.MIN_VALUE, Integer.MAX_VALUE));
        Check.train(p, "car old 10;");
        Check.due("out no more", p.car(1, 2), 0);
        Check.due("a whole hose again", p.car(1, 5), 100);
        Check.thrown("car 2 no more", () -> p.car(2, 0));
    }

    private static void counts() {
        TrainPipe p = new TrainPipe();
        Check.train(p, "car old 10;car old 10;");
        Check.handle(p, "hold 5;let 6;dump 7;");
        Check.put(p, 1, 2);
        p.day(true);
        Check.put(p, 1, 2, 3, 4, 5, 6, 7);
        int[] due = {2, 3, 1, 18, 7, -1};
        for (int what = 0; what < due.length; what++) {
            Check.due("count " + what, p.count(what), due[what]);
        }
        Check.due("count -1", p.count(-1), -1);
    }
}
