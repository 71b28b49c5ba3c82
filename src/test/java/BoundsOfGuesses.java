/** Sentence by sentence: 'Terms' ==== 4. and the promises 18 to 21, GUESSES, GAUGES and WALKS. */
final class BoundsOfGuesses {
    private static final String HERE = "Terms 4";

    private BoundsOfGuesses() { }

    static void all() {
        guesses();
        gauges();
        walks();
        fitPromises();
        walkPromises();
    }

    private static void guesses() {
        Sentence.holds(HERE, "A GUESS is one FAULT of the TRAIN: 0 none;", BoundsOfGuesses::noFaultIsZero);
        Sentence.holds(HERE, "of CAR c (1 to n): 10 c and 0, 1, 2: its leak is 10, 20, 40;", BoundsOfGuesses::leaks);
        Sentence.holds(HERE, "3, 4: its hose 10, 30;", BoundsOfGuesses::hoses);
        Sentence.holds(HERE, "5 stuck on, 6 off", BoundsOfGuesses::stuckOnAndOff);
        Sentence.holds(HERE, "(each in place of what is told).", BoundsOfGuesses::inPlaceOfWhatIsTold);
    }

    private static void noFaultIsZero() {
        TrainPipe p = Calls.pipe("car old 50 leak 99;", "");
        // 69 of 700 are lost as told; no GUESS has that leak.
        Check.due("as told", Calls.fits(p, 0, -1, 1, 700, 631), 5);
        Calls.fitting("as told", p, 0, 13, 14, 15, 16);
        Check.due("0 does not fit", Calls.fits(p, 0, -1, 1, 700, 693), 1);
        Calls.fitting("0 does not fit", p, 10);
        // One FAULT, never two: a leak of 10 and a hose of 10 are in no GUESS.
        Check.handle(p, "dump 1;");
        Check.due("a leak and a hose", Calls.fits(p, 0, -1, 1, 17, 677), 0);
    }

    private static void leaks() {
        for (int n : new int[] {1, 2, 16}) {
            TrainPipe p = Calls.pipe("full 860;" + Calls.cars(n), "");
            // 8.6, 17.2 and 34.4 are lost: a leak that is one less or one more loses another number.
            int[] left = {852, 843, 826};
            for (int kind = 0; kind <= 2; kind++) {
                Check.due("leak of the last of " + n, Calls.fits(p, 0, -1, 1, 860, left[kind]), 1);
                Calls.fitting("leak of the last of " + n, p, 10 * n + kind);
            }
            // By 99 all GUESSES fit: seven for each CAR and 0.
            Check.due("all of " + n, Calls.fits(p, 99, -1, 1, 860, 860), 7 * n + 1);
            Check.due("the first", p.fitAt(0), 0);
            Check.due("the first of car 1", p.fitAt(1), 10);
            Check.due("the last of car 1", p.fitAt(7), 16);
            Check.due("the last of all", p.fitAt(7 * n), 10 * n + 6);
            Check.due("none behind", p.fitAt(7 * n + 1), -1);
        }
    }

    private static void hoses() {
        TrainPipe p = Calls.pipe("car old 50;", "dump 1;");
        Check.due("hose 10", Calls.fits(p, 0, -1, 1, 17, 683), 1);
        Calls.fitting("hose 10", p, 13);
        Check.due("hose 30", Calls.fits(p, 0, -1, 1, 52, 648), 1);
        Calls.fitting("hose 30", p, 14);
        p = Calls.pipe("car old 50;car old 50;", "both;dump 1;");
        // The hose of CAR 2 is between the CELLS 1 and 2.
        Check.due("hose 10 of car 2", Calls.fits(p, 0, -1, 1, 175, 17), 1);
        Calls.fitting("hose 10 of car 2", p, 23);
        Check.due("hose 30 of car 2", Calls.fits(p, 0, -1, 1, 175, 52), 1);
        Calls.fitting("hose 30 of car 2", p, 24);
    }

    private static void stuckOnAndOff() {
        // A quick CAR loses 8 of 525 while it SETS: not with stuck off.
        TrainPipe p = Calls.pipe("car quick 50;", "dump 1;");
        Check.due("it sets", Calls.fits(p, 0, -1, 1, 175, 517), 2);
        Calls.fitting("it sets, stuck on, too", p, 0, 15);
        Check.due("it does not", Calls.fits(p, 0, -1, 1, 175, 525), 1);
        Calls.fitting("stuck off", p, 16);
        // With stuck on the CYLINDER stays: HOT to the end, where 0 lets go.
        p = Calls.pipe("full 300;feed 99;car old 50 hose 0;", "both;dump 1;let 99;");
        int back = p.at(99, 1, 0);
        Check.due("cold again", p.at(99, 1, 2), 0);
        Calls.fits(p, 0, 1, 99, 300, back);
        Check.due("hot still", p.fitAt(0), 15);
        Check.due("by none but that", p.fitAt(1), -1);
    }

    private static void inPlaceOfWhatIsTold() {
        TrainPipe p = Calls.pipe("car old 50 leak 40;", "");
        Check.due("a leak of 10 for one of 40", Calls.fits(p, 0, -1, 1, 700, 693), 1);
        Calls.fitting("a leak of 10 for one of 40", p, 10);
        Check.due("a leak of 40 as told", Calls.fits(p, 0, -1, 1, 700, 672), 6);
        Calls.fitting("a leak of 40 as told", p, 0, 12, 13, 14, 15, 16);
        p = Calls.pipe("car old 50 hose 10;", "dump 1;");
        Check.due("a hose of 30 for one of 10", Calls.fits(p, 0, -1, 1, 52, 648), 1);
        Calls.fitting("a hose of 30 for one of 10", p, 14);
        p = Calls.pipe("car quick 50 stuck off;", "dump 1;");
        Check.due("stuck on for off", Calls.fits(p, 0, -1, 1, 175, 517), 1);
        Calls.fitting("stuck on for off", p, 15);
        p = Calls.pipe("car quick 50 stuck on;", "dump 1;");
        Check.due("stuck off for on", Calls.fits(p, 0, -1, 1, 175, 525), 1);
        Calls.fitting("stuck off for on", p, 16);
        Check.due("the train is as it was", p.car(1, 6), 1);
        // What is told else stays: an 'out' CAR does not SET by any GUESS.
        p = Calls.pipe("car quick 50 out;", "dump 1;");
        Check.due("out", Calls.fits(p, 0, -1, 1, 175, 525), 3);
        Calls.fitting("out", p, 0, 15, 16);
    }

    private static void gauges() {
        Sentence.holds(HERE, "It FITS GAUGES, 1 to 8 told ones", BoundsOfGuesses::oneToEightGauges);
        Sentence.holds(HERE, "(a TICK 1 to 400,", BoundsOfGuesses::gaugeTicks1To400);
        Sentence.holds(HERE, "PRESSURES of CELL 0 and of the last CELL then), by the HANDLE,",
            BoundsOfGuesses::bothEnds);
        Sentence.holds(HERE, "if each PRESSURE differs by no more than a told number,",
            BoundsOfGuesses::noMoreThanToldOff);
        Sentence.holds(HERE, "and if, told which CARS are HOT (CYLINDER 100 or more)", BoundsOfGuesses::hotWith100);
        Sentence.holds(HERE, "at the greatest TICK told, those are.", BoundsOfGuesses::atTheGreatestTick);
    }

    private static int fitsTimes(TrainPipe p, int times) {
        for (int i = 0; i < times; i++) {
            Check.gauge(p, 1 + i, 700, 700);
        }
        return p.fits(0, -1);
    }

    private static void oneToEightGauges() {
        TrainPipe p = new TrainPipe();
        Check.due("none", fitsTimes(p, 0), -1);
        for (int times = 1; times <= 8; times++) {
            Check.due(times + " gauges", fitsTimes(p, times), 5);
        }
        Check.due("9 gauges", fitsTimes(p, 9), -1);
        Check.due("10 gauges", fitsTimes(p, 10), -1);
        // Those of an older call do not count.
        Calls.fits(p, 0, -1, 9, 700, 700, 8, 1, 1, 7, 1, 1, 6, 1, 1, 5, 1, 1, 4, 1, 1, 3, 1, 1, 2, 1, 1);
        Check.due("one behind eight", Calls.fits(p, 0, -1, 9, 700, 700), 5);
        Check.due("two behind eight", Calls.fits(p, 0, -1, 9, 700, 700, 9, 700, 700), 5);
        // Each of them counts: one that no GUESS fits, at each place of eight.
        for (int wrong = 0; wrong < 8; wrong++) {
            for (int i = 0; i < 8; i++) {
                Check.gauge(p, 9, i == wrong ? 701 : 700, 700);
            }
            Check.due("wrong at " + wrong, p.fits(0, -1), 0);
        }
    }

    private static void gaugeTicks1To400() {
        TrainPipe p = Calls.pipe("full 900;car old 50 hose 0 out;", "draw 1 1;");
        Check.due("tick 0", Calls.fits(p, 0, -1, 0, 900, 900), -1);
        // A leak takes some of 900, a hose of 30 some of what the draws leave: those differ at the back.
        Calls.fits(p, 0, -1, 1, 899, 900);
        Calls.fitting("tick 1", p, 0, 13, 14, 15, 16);
        Calls.fits(p, 0, -1, 400, 500, 900);
        Calls.fitting("tick 400", p, 0, 15, 16);
        Check.due("tick 401", Calls.fits(p, 0, -1, 401, 499, 900), -1);
        Check.due("tick 65535", Calls.fits(p, 0, -1, 65535, 900, 900), -1);
        Check.due("tick 256", Calls.fits(p, 0, -1, 256, 644, 900), 3);
        Check.due("tick 0 behind a good one", Calls.fits(p, 0, -1, 1, 899, 900, 0, 900, 900), -1);
        Check.due("tick 401 ahead of a good one", Calls.fits(p, 0, -1, 401, 499, 900, 1, 899, 900), -1);
    }

    private static void bothEnds() {
        TrainPipe p = Calls.pipe("car old 50;car old 50;car old 50;", "dump 1;");
        // Behind TICK 1: 175, 525, 700, 700, but for the hoses of CAR 1 and the leaks of CAR 3.
        Check.due("the first and the last cell", Calls.fits(p, 0, -1, 1, 175, 700), 17);
        Check.due("not the second", Calls.fits(p, 0, -1, 1, 525, 700), 0);
        Check.due("not the last but one", Calls.fits(p, 0, -1, 1, 175, 525), 0);
        Check.handle(p, "both;dump 1;");
        Check.due("by the handle", Calls.fits(p, 0, -1, 1, 175, 700), 0);
        Check.due("by both ends of it", Calls.fits(p, 0, -1, 1, 175, 175) > 0, true);
    }

    private static void noMoreThanToldOff() {
        TrainPipe p = new TrainPipe();
        int[] offs = {0, 1, 5, 99};
        for (int off : offs) {
            Check.gauge(p, 1, 700 + off, 700);
            p.fits(off, -1);
            Check.due("front, more by " + off, p.fitAt(0), 0);
            Check.due("front, more by one more", Calls.fits(p, off, -1, 1, 701 + off, 700), 0);
            Calls.fits(p, off, -1, 1, 700 - off, 700);
            Check.due("front, less by " + off, p.fitAt(0), 0);
            Check.due("front, less by one more", Calls.fits(p, off, -1, 1, 699 - off, 700), 0);
            Calls.fits(p, off, -1, 1, 700, 700 + off);
            Check.due("back, more by " + off, p.fitAt(0), 0);
            Check.due("back, more by one more", Calls.fits(p, off, -1, 1, 700, 701 + off), 0);
            Calls.fits(p, off, -1, 1, 700, 700 - off);
            Check.due("back, less by " + off, p.fitAt(0), 0);
            Calls.fits(p, off, -1, 1, 700, 699 - off);
            Check.due("back, less by one more", p.fitAt(0) != 0, true);
        }
        // The greatest PRESSURE that two bytes tell.
        Check.due("65535", Calls.fits(p, 99, -1, 1, 65535, 700), 0);
        Check.due("65535 at the back", Calls.fits(p, 99, -1, 1, 700, 65535), 0);
        // PRESSURE 0 and a number that goes below it.
        p = Calls.pipe("car old 50 hose 0;", "both;dump 1;");
        Check.due("0 by 99", Calls.fits(p, 99, -1, 1, 0, 0), 8);
    }

    private static void hotWith100() {
        // 30 and 19 of the TANK are 98 in the CYLINDER, 30 and 20 are 100.
        TrainPipe p = Calls.pipe("full 300;car quick 50 hose 0;", "both;draw 30 1;draw 11 1;hold 1;");
        Check.due("98", p.at(2, 1, 2), 98);
        Check.due("98 is cold", Calls.fits(p, 0, 0, 2, 259, 243), 4);
        Check.due("98 is not hot", Calls.fits(p, 0, 1, 2, 259, 243), 0);
        Check.handle(p, "both;draw 30 1;draw 12 1;hold 1;");
        Check.due("100", p.at(2, 1, 2), 100);
        Check.due("100 is not cold", Calls.fits(p, 0, 0, 2, 258, 242), 0);
        Check.due("100 is hot", Calls.fits(p, 0, 1, 2, 258, 242), 4);
        // Told at all: NONE asks for nothing.
        Check.due("not told", Calls.fits(p, 0, -1, 2, 258, 242), 4);
        // Just those: of two CARS the second alone.
        p = Calls.pipe("car old 50 out hose 0;car old 50 hose 0;", "both;dump 1;");
        Check.due("car 2 is hot", Calls.fits(p, 0, 2, 9, 0, 0) > 0, true);
        Check.due("not car 1", Calls.fits(p, 0, 1, 9, 0, 0), 0);
        Check.due("not both", Calls.fits(p, 0, 3, 9, 0, 0), 0);
        Calls.fits(p, 0, 0, 9, 0, 0);
        Calls.fitting("none is, by stuck off", p, 26);
    }

    private static void atTheGreatestTick() {
        // 40 in TICK 1, 80 in TICK 2, 120 in TICK 3; the PRESSURES are 0 from the first TICK on.
        TrainPipe p = Calls.pipe("car old 50 hose 0;", "both;dump 1;");
        Check.due("cold in tick 2", Calls.fits(p, 0, 0, 2, 0, 0), 8);
        Check.due("cold in tick 3 by stuck off", Calls.fits(p, 0, 0, 3, 0, 0), 1);
        Check.due("hot in tick 3, told last", Calls.fits(p, 0, 1, 2, 0, 0, 3, 0, 0), 7);
        Check.due("hot in tick 3, told first", Calls.fits(p, 0, 1, 3, 0, 0, 2, 0, 0), 7);
        Check.due("hot in tick 3, told twice", Calls.fits(p, 0, 1, 3, 0, 0, 1, 0, 0, 3, 0, 0), 7);
        Check.due("cold in tick 2 of two", Calls.fits(p, 0, 0, 2, 0, 0, 1, 0, 0), 8);
        Check.due("hot in tick 400", Calls.fits(p, 0, 1, 1, 0, 0, 400, 0, 0), 7);
    }

    private static void walks() {
        Sentence.holds(HERE, "WALKS: to look at some CARS in a TICK by the HANDLE: whether they are HOT.",
            BoundsOfGuesses::walksInATick);
        Sentence.holds(HERE, "The fewest CARS so that any two GUESSES that FIT and differ at some CAR differ at one "
            + "of them;", BoundsOfGuesses::fewestCars);
        Sentence.holds(HERE, "of like ones the least set as bits (1 for CAR 1, ..).",
            BoundsOfGuesses::leastSetOfLike);
        Sentence.holds(HERE, "UNPARTED: pairs of those that differ at none.", BoundsOfGuesses::unpartedPairs);
    }

    /** By a GAUGE at rest all GUESSES but the leaks fit: 0 and four for each CAR. */
    private static TrainPipe fittedAtRest(int cars, String thenTrain, String thenHandle) {
        TrainPipe p = Calls.pipe(Calls.cars(cars), "");
        Check.due("at rest", Calls.fits(p, 0, -1, 400, 700, 700), 4 * cars + 1);
        Check.train(p, thenTrain);
        Check.handle(p, thenHandle);
        return p;
    }

    /** By what a dump does to the first CELL in TICK 1 only a hose of 10 and one of 30 of CAR 1 fit. */
    private static TrainPipe fittedFirstHose(int cars, String thenTrain) {
        TrainPipe p = Calls.pipe(Calls.cars(cars), "dump 1;");
        Check.due("two hoses", Calls.fits(p, 35, -1, 1, 52, 700), 2);
        Calls.fitting("two hoses", p, 13, 14);
        Check.train(p, thenTrain);
        return p;
    }

    private static void walk(String what, TrainPipe p, int tick, int set, int unparted) {
        Check.due(what + ", cars", p.walks(tick), Integer.bitCount(set));
        Check.due(what + ", as bits", p.walked(0), set);
        Check.due(what + ", unparted", p.walked(1), unparted);
    }

    private static void walksInATick() {
        // CYLINDERS by the hose of 10 and by that of 30: 48, 34 and 96, 124 behind TICK 4; 72, 62 and 120, 176
        // behind TICK 5; 120, 112 and 168, 274 behind TICK 7.
        TrainPipe p = fittedFirstHose(2, "car slow 50;car quick 50;");
        walk("tick 3: both cold by both", p, 3, 0, 1);
        walk("tick 4: car 2 is hot by one", p, 4, 2, 0);
        walk("tick 7: both hot by both", p, 7, 0, 1);
        Check.handle(p, "");
        walk("by the handle: it holds", p, 4, 0, 1);
        // HOT with just 100, cold with 98: by stuck off it is cold in either case.
        String quick = "full 300;car quick 50 hose 0;";
        walk("98", fittedAtRest(1, quick, "both;draw 30 1;draw 11 1;hold 1;"), 2, 0, 10);
        walk("100", fittedAtRest(1, quick, "both;draw 30 1;draw 12 1;hold 1;"), 2, 1, 6);
    }

    private static void fewestCars() {
        // Stuck off cools one CAR of its own, so that each is needed.
        for (int n : new int[] {1, 2, 15, 16}) {
            TrainPipe p = fittedAtRest(n, "car old 50 hose 0 leak 40;".repeat(n), "");
            walk("all of " + n, p, 30, (1 << n) - 1, (3 * n + 1) * (3 * n) / 2);
        }
        // Sets of HOT CARS 0, 4, 12, 21 and 30: 1, 2, 4 and 8 together part them, but three CARS do, too.
        String five = "car old 50 stuck off;car quick 50 stuck off;car quick 50;car slow 50;car old 50;";
        TrainPipe p = fittedAtRest(5, five, "dump 2;let 99;");
        Check.due("three, not four", p.walks(19), 3);
        Check.due("4, 8 and 16", p.walked(0), 28);
    }

    private static void leastSetOfLike() {
        TrainPipe p = fittedFirstHose(2, "car slow 50;car quick 50;");
        walk("both differ", p, 5, 1, 0);
        // Behind TICK 7 three CARS differ: 96, 78, 46 and 168, 216, 132; behind TICK 8 the third one alone.
        p = fittedFirstHose(3, "car slow 50;car quick 50;car quick 50;");
        walk("three differ", p, 7, 1, 0);
        walk("the third differs", p, 8, 4, 0);
        // Sets of HOT CARS 0, 1 and 12: CAR 1 and one of the CARS 3 and 4.
        p = fittedAtRest(4, "car old 50 stuck off;car old 50 hose 10 stuck off;car quick 50;car quick 50;",
            "dump 2;let 99;");
        Check.due("two cars", p.walks(20), 2);
        Check.due("1 and 4, not 1 and 8", p.walked(0), 5);
    }

    private static void unpartedPairs() {
        walk("five guesses", fittedAtRest(1, "car old 50;", ""), 400, 0, 10);
        // A dump: HOT in TICK 3 by 0, 14 and 15, cold by 13 and 16.
        walk("three hot, two cold", fittedAtRest(1, "car old 50;", "dump 1;"), 3, 1, 4);
        TrainPipe p = Calls.pipe(Calls.cars(16), "");
        Check.due("all fit", Calls.fits(p, 99, -1, 1, 700, 700), 113);
        walk("all 113", p, 1, 0, 113 * 112 / 2);
        Check.due("none fits", Calls.fits(p, 0, -1, 1, 0, 0), 0);
        walk("of none", p, 1, 0, 0);
        p = new TrainPipe();
        Check.due("one fits", Calls.fits(p, 0, -1, 1, 700, 693), 1);
        walk("of one", p, 1, 0, 0);
    }

    private static void fitPromises() {
        Sentence.holds("Promise 18", "`int fits(int off, int hot)`: GUESSES that FIT, the tape's bytes being "
            + "GAUGES, six each", BoundsOfGuesses::sixBytesEach);
        Sentence.holds("Promise 18", "(a TICK, two PRESSURES, two bytes each, the higher one first),",
            BoundsOfGuesses::theHigherByteFirst);
        Sentence.holds("Promise 18", "by no more than some (0 to 99),", BoundsOfGuesses::off0To99);
        Sentence.holds("Promise 18", "with HOT CARS as bits (1 for CAR 1, ..; NONE: not told):",
            BoundsOfGuesses::hotAsBits);
        Sentence.holds("Promise 18", "how many; NONE: not as told.", BoundsOfGuesses::howManyFit);
        Sentence.holds("Promise 19", "`int fitAt(int k)`: The k-th GUESS (rising) of the latest fits() that was not "
            + "NONE;", BoundsOfGuesses::theLatestFits);
        Sentence.holds("Promise 19", "NONE: there is none such, or ahead of any.", BoundsOfGuesses::noneFits);
    }

    private static void sixBytesEach() {
        TrainPipe p = new TrainPipe();
        int[] gauge = {0, 1, 2, 188, 2, 188};
        for (int size = 0; size <= 60; size++) {
            int[] bytes = new int[size];
            for (int i = 0; i < size; i++) {
                bytes[i] = gauge[i % 6];
            }
            Check.put(p, bytes);
            boolean told = size % 6 == 0 && size >= 6 && size <= 48;
            Check.due(size + " bytes", p.fits(0, -1), told ? 5 : -1);
            Check.due("the tape behind " + size, p.count(4), 0);
        }
        Check.put(p, Calls.blanks(740));
        Check.due("740 bytes", p.fits(0, -1), -1);
        Check.due("the tape behind 740", p.count(4), 0);
    }

    private static void theHigherByteFirst() {
        TrainPipe p = Calls.pipe("full 900;car old 50 hose 0 out;", "draw 1 1;");
        Check.put(p, 1, 0, 2, 132, 3, 132);
        Check.due("256, 644, 900", p.fits(0, -1), 3);
        Check.put(p, 0, 1, 3, 131, 3, 132);
        Check.due("1, 899, 900", p.fits(0, -1), 5);
        Check.put(p, 1, 144, 1, 244, 3, 132);
        Check.due("400, 500, 900", p.fits(0, -1), 3);
        Check.put(p, 1, 145, 1, 244, 3, 132);
        Check.due("401", p.fits(0, -1), -1);
        Check.put(p, 0, 255, 2, 133, 3, 132);
        Check.due("255, 645, 900", p.fits(0, -1), 3);
        Check.put(p, 255, 255, 2, 133, 3, 132);
        Check.due("65535 is no tick", p.fits(0, -1), -1);
        Check.put(p, 0, 0, 2, 133, 3, 132);
        Check.due("0 is no tick", p.fits(0, -1), -1);
        Check.put(p, 0, 1, 131, 3, 132, 3);
        Check.due("the lower one first", p.fits(99, -1), 0);
    }

    private static void off0To99() {
        TrainPipe p = new TrainPipe();
        Check.due("off 0", Calls.fits(p, 0, -1, 1, 700, 700), 5);
        Check.due("off 99", Calls.fits(p, 99, -1, 1, 700, 799), 5);
        for (int off : new int[] {-1, 100, Calls.MOST, Calls.LEAST}) {
            Check.due("off " + off, Calls.fits(p, off, -1, 1, 700, 700), -1);
        }
    }

    private static void hotAsBits() {
        TrainPipe p = Calls.pipe("car old 50;car old 50 hose 0;car old 50 hose 0;", "both;dump 1;");
        // CAR 1 and CAR 3 hear, CAR 2 does not.
        Calls.fits(p, 0, 5, 9, p.at(9, 0, 0), 0);
        Check.due("cars 1 and 3", p.fitAt(0), 0);
        Calls.fits(p, 0, 2, 9, p.at(9, 0, 0), 0);
        Check.due("not car 2", p.fitAt(0), -1);
        Check.due("none of three", Calls.fits(p, 99, 0, 1, 175, 0) >= 0, true);
        Check.due("all of three", Calls.fits(p, 99, 7, 1, 175, 0), 0);
        for (int hot : new int[] {8, -2, Calls.MOST, Calls.LEAST, 65536, 9}) {
            Check.due("hot " + hot, Calls.fits(p, 99, hot, 1, 175, 0), -1);
        }
        Check.due("not told", Calls.fits(p, 99, -1, 1, 175, 0) > 0, true);
        p = Calls.pipe("car old 50 hose 0 leak 99;".repeat(16), "");
        Calls.fits(p, 99, 65535, 9, 700, p.at(9, 16, 0));
        Check.due("all of sixteen", p.fitAt(0), 0);
        Check.due("a 17th", Calls.fits(p, 99, 65536, 9, 700, 700), -1);
        p = new TrainPipe();
        Check.due("car 2 of one", Calls.fits(p, 0, 2, 1, 700, 700), -1);
        Check.due("car 1 of one", Calls.fits(p, 0, 1, 1, 700, 700), 0);
    }

    private static void howManyFit() {
        TrainPipe p = new TrainPipe();
        Check.due("none fits", Calls.fits(p, 0, -1, 1, 1, 1), 0);
        Check.due("one fits", Calls.fits(p, 0, -1, 1, 700, 693), 1);
        Check.due("all fit", Calls.fits(p, 99, -1, 1, 700, 700), 8);
        Check.due("an empty tape", p.fits(0, -1), -1);
        p = Calls.pipe(Calls.cars(16), "");
        Check.due("all of sixteen cars", Calls.fits(p, 99, -1, 1, 700, 700), 113);
    }

    private static void theLatestFits() {
        TrainPipe p = new TrainPipe();
        Calls.fits(p, 0, -1, 1, 700, 700);
        Calls.fitting("rising", p, 0, 13, 14, 15, 16);
        p.fits(0, -1);
        Calls.fits(p, 100, -1, 1, 700, 700);
        Calls.fits(p, 0, -2, 1, 700, 700);
        Calls.fits(p, 0, -1, 401, 700, 700);
        Calls.fitting("behind some that were NONE", p, 0, 13, 14, 15, 16);
        Check.train(p, Calls.cars(3));
        Check.handle(p, "dump 1;");
        p.walks(3);
        Calls.fitting("behind another train", p, 0, 13, 14, 15, 16);
        Calls.fits(p, 0, -1, 1, 1, 1);
        Calls.fitting("of one that none fits", p);
        Check.train(p, Calls.cars(1));
        Check.handle(p, "");
        Calls.fits(p, 7, -1, 1, 700, 687);
        Calls.fitting("fewer than ahead", p, 10, 11);
    }

    private static void noneFits() {
        TrainPipe p = new TrainPipe();
        for (int k = -1; k <= 8; k++) {
            Check.due("ahead of any " + k, p.fitAt(k), -1);
        }
        p.fits(0, -1);
        Check.due("behind one that was NONE", p.fitAt(0), -1);
        Calls.fits(p, 0, -1, 1, 700, 700);
        for (int k : new int[] {-1, 5, 6, 112, 113, 114, Calls.MOST, Calls.LEAST}) {
            Check.due("fitAt " + k, p.fitAt(k), -1);
        }
    }

    private static void walkPromises() {
        Sentence.holds("Promise 20", "`int walks(int tick)`: WALKS in a TICK (1 to 400)",
            BoundsOfGuesses::walks1To400);
        Sentence.holds("Promise 20", "for the GUESSES of the latest fits() that was not NONE",
            BoundsOfGuesses::walksForTheLatestFits);
        Sentence.holds("Promise 20", "(by the TRAIN and HANDLE as they are now):",
            BoundsOfGuesses::walksAsTheyAreNow);
        Sentence.holds("Promise 20", "how many CARS; NONE: not as told, ahead of any, or the TRAIN has another "
            + "number of CARS.", BoundsOfGuesses::noWalks);
        Sentence.holds("Promise 21", "`int walked(int what)`: By the latest walks() that was not NONE: 0 those CARS "
            + "as bits, 1 UNPARTED.", BoundsOfGuesses::theLatestWalk);
        Sentence.holds("Promise 21", "NONE for another what, or ahead of any.", BoundsOfGuesses::noneWalked);
    }

    private static void walks1To400() {
        TrainPipe p = fittedAtRest(1, "car old 50;", "hold 99;".repeat(4) + "hold 1;dump 1;");
        Check.due("tick 1", p.walks(1), 0);
        // Dumped in TICK 398, HOT in TICK 400.
        Check.due("tick 399", p.walks(399), 0);
        Check.due("tick 400", p.walks(400), 1);
        for (int tick : new int[] {0, 401, -1, 600, Calls.MOST, Calls.LEAST}) {
            Check.due("tick " + tick, p.walks(tick), -1);
        }
        // A CAR that is HOT in TICK 1 there is not: 60 is the most. In TICK 2 a quick one is.
        p = fittedAtRest(1, "car quick 50 hose 0;", "both;dump 1;");
        Check.due("tick 1 of a dump", p.walks(1), 0);
        Check.due("tick 2 of a dump", p.walks(2), 1);
    }

    private static void walksForTheLatestFits() {
        TrainPipe p = fittedAtRest(1, "car old 50;", "dump 1;");
        walk("five guesses", p, 3, 1, 4);
        p.fits(0, -1);
        Calls.fits(p, -1, -1, 1, 700, 700);
        walk("behind some that were NONE", p, 3, 1, 4);
        // By a dump the hose of 10 alone has 17 and 683.
        Check.due("one guess", Calls.fits(p, 0, -1, 1, 17, 683), 1);
        walk("one guess", p, 3, 0, 0);
    }

    private static void walksAsTheyAreNow() {
        TrainPipe p = fittedAtRest(1, "car old 50;", "");
        walk("nothing is hot", p, 3, 0, 10);
        Check.handle(p, "dump 1;");
        walk("another handle", p, 3, 1, 4);
        Check.train(p, "car old 50 out;");
        walk("another train", p, 3, 0, 10);
        Check.train(p, "car");
        walk("a train with a fault is none", p, 3, 0, 10);
    }

    private static void noWalks() {
        TrainPipe p = new TrainPipe();
        Check.due("ahead of any", p.walks(1), -1);
        p.fits(0, -1);
        Check.due("behind one that was NONE", p.walks(1), -1);
        Calls.fits(p, 0, -1, 400, 700, 700);
        Check.due("one car", p.walks(1), 0);
        Check.train(p, Calls.cars(2));
        Check.due("two cars", p.walks(1), -1);
        Check.train(p, Calls.cars(16));
        Check.due("sixteen cars", p.walks(1), -1);
        Check.train(p, "car slow 99;");
        Check.due("another one car", p.walks(1), 0);
        p = fittedAtRest(2, "car old 50;", "");
        Check.due("fewer cars", p.walks(1), -1);
        Check.due("no tick, either", p.walks(0), -1);
        // That no GUESS FITS is no reason: no CAR is needed.
        Calls.fits(p, 0, -1, 1, 1, 1);
        Check.due("no guess", p.walks(1), 0);
    }

    private static void theLatestWalk() {
        TrainPipe p = fittedAtRest(1, "car old 50;", "dump 1;");
        walk("a walk", p, 3, 1, 4);
        p.walks(0);
        p.walks(401);
        Check.due("bits behind one that was NONE", p.walked(0), 1);
        Check.due("unparted behind one that was NONE", p.walked(1), 4);
        Check.train(p, Calls.cars(2));
        p.walks(3);
        Calls.fits(p, 0, -1, 1, 1, 1);
        Check.due("bits behind another train and fits", p.walked(0), 1);
        Check.due("unparted behind another train and fits", p.walked(1), 4);
        p.walks(3);
        Check.due("bits of the next one", p.walked(0), 0);
        Check.due("unparted of the next one", p.walked(1), 0);
    }

    private static void noneWalked() {
        TrainPipe p = fittedAtRest(1, "car old 50;", "dump 1;");
        for (int what = -1; what <= 2; what++) {
            Check.due("ahead of any " + what, p.walked(what), -1);
        }
        p.walks(401);
        Check.due("behind one that was NONE", p.walked(0), -1);
        p.walks(3);
        for (int what : new int[] {-1, 2, Calls.MOST, Calls.LEAST}) {
            Check.due("walked " + what, p.walked(what), -1);
        }
    }
}
