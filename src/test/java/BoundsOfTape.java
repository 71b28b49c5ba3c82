import java.util.List;
import java.util.function.ToIntFunction;

/** Sentence by sentence: the promises 1 to 7 and 27, a new object, the tape, what is told of texts and CARS. */
final class BoundsOfTape {
    private BoundsOfTape() { }

    static void all() {
        newObject();
        tape();
        texts();
        cars();
        counts();
    }

    private static void newObject() {
        Sentence.holds("Promise 1", "`TrainPipe()`: A TRAIN of one old CAR of 50,", BoundsOfTape::oneOldCar);
        Sentence.holds("Promise 1", "the empty HANDLE, an empty BOOK; an empty tape.", BoundsOfTape::allElseIsEmpty);
    }

    private static void oneOldCar() {
        TrainPipe p = new TrainPipe();
        Check.due("cars", p.count(0), 1);
        int[] facts = {0, 50, 0, 0, 0, 100, 0};
        for (int what = 0; what <= 6; what++) {
            Check.due("fact " + what, p.car(1, what), facts[what]);
        }
        Calls.state(p, 0, 1, 700, 700, 0);
        Check.handle(p, "dump 1;let 1;");
        Check.due("a feed of 40", p.at(2, 0, 0), 215 + (525 - 215) / 4);
    }

    private static void allElseIsEmpty() {
        TrainPipe p = new TrainPipe();
        Check.due("steps", p.count(1), 0);
        Check.due("days", p.count(2), 0);
        Check.due("ticks", p.count(3), 0);
        Check.due("tape", p.count(4), 0);
        Check.due("holds", p.at(600, 1, 0), 700);
        // Without 'both': a dump that helps is felt at the first CELL alone.
        Check.train(p, "car old 50 hose 0;");
        Check.due("no both", p.help(0, 1, 0, Calls.MOST), -1);
        Check.due("no day", p.suspects(0), -1);
        Check.due("no byte to end", p.end(1), false);
        // Two objects have nothing in common.
        TrainPipe other = Calls.busy();
        Check.due("another's cars", other.count(0), 2);
        Check.due("its own cars", p.count(0), 1);
        Check.due("its own days", p.count(2), 0);
        Check.due("its own tape", p.count(4), 0);
    }

    private static void tape() {
        Sentence.holds("Promise 2", "`int feed(int a, int b, int c, int d, int e)`: Twenty bytes come behind the "
            + "tape, of each number the highest first:", BoundsOfTape::theHighestByteFirst);
        Sentence.holds("Promise 2", "how many it has;", BoundsOfTape::howManyItHas);
        Sentence.holds("Promise 2", "NONE, and none come, if it would have more than 740.",
            BoundsOfTape::noMoreThan740);
        Sentence.holds("Promise 3", "`boolean end(int n)`: The tape has its first n bytes alone: true;",
            BoundsOfTape::firstBytesAlone);
        Sentence.holds("Promise 3", "false, if it has not so many, or n is below 0.", BoundsOfTape::notSoMany);
    }

    private static void theHighestByteFirst() {
        TrainPipe p = new TrainPipe();
        // "car ", "old ", "11;\n", and two numbers of blanks.
        p.feed(0x63617220, 0x6f6c6420, 0x31313b0a, 0x20202020, 0x20202020);
        Check.due("as a text", p.train(), 1);
        Check.due("its weight", p.car(1, 1), 11);
        // As wagons: 0 to 15 in rows of four; a byte above 127 is a number from 128 to 255 and no wagon.
        p.feed(0x00010203, 0x04050607, 0x08090a0b, 0x0c0d0e0f, 0);
        p.end(16);
        Check.due("as a day", p.day(true), 0);
        Calls.found("its wagons", p, 0, 0, 1, 2, 3, 4, 5, 6, 7, 8, 9, 10, 11, 12, 13, 14, 15);
        p.feed(-1, -1, -1, -1, -1);
        p.end(1);
        Check.due("255 is no wagon", p.day(true), -1);
        p.feed(0x80000000, 0, 0, 0, 0);
        p.end(1);
        Check.due("128 is no wagon", p.day(true), -1);
        // As a GAUGE's bytes: 2 and 188 are 700.
        p.feed(0x000102bc, 0x02bc0000, 0, 0, 0);
        p.end(6);
        Check.due("as a gauge", p.fits(0, -1), 5);
        // Behind the tape: what was there stays ahead.
        p.feed(0x05000000, 0, 0, 0, 0);
        p.end(1);
        p.feed(0x06000000, 0, 0, 0, 0);
        p.end(2);
        p.day(false);
        Check.due("two wagons", p.count(2), 2);
    }

    private static void howManyItHas() {
        TrainPipe p = new TrainPipe();
        for (int i = 1; i <= 37; i++) {
            Check.due("feed " + i, p.feed(i, 0, 0, 0, -i), 20 * i);
            Check.due("count " + i, p.count(4), 20 * i);
        }
        p.end(7);
        Check.due("behind seven", p.feed(0, 0, 0, 0, 0), 27);
    }

    private static void noMoreThan740() {
        TrainPipe p = new TrainPipe();
        Check.put(p, "car old 12;" + Calls.blanks(709));
        Check.due("720 and 20", p.feed(0x20202020, 0x20202020, 0x20202020, 0x20202020, 0x20202020), 740);
        Check.due("740 and 20", p.feed(1, 2, 3, 4, 5), -1);
        Check.due("still 740", p.count(4), 740);
        for (int size = 739; size > 720; size--) {
            p.end(size);
            Check.due(size + " and 20", p.feed(0x21212121, 0x21212121, 0x21212121, 0x21212121, 0x21212121), -1);
            Check.due("still " + size, p.count(4), size);
        }
        p.end(720);
        Check.due("720 and 20 again", p.feed(0x20202020, 0x20202020, 0x20202020, 0x20202020, 0x20202020), 740);
        p.end(700);
        Check.due("none came: the text is whole", p.train(), 1);
        Check.due("its weight", p.car(1, 1), 12);
    }

    private static void firstBytesAlone() {
        TrainPipe p = new TrainPipe();
        Check.due("0 of none", p.end(0), true);
        Check.put(p, "car old 12;car old 13;");
        Check.due("22 of 22", p.end(22), true);
        Check.due("all are there", p.count(4), 22);
        Check.due("11 of 22", p.end(11), true);
        Check.due("eleven are there", p.count(4), 11);
        Check.put(p, "car old 14;");
        Check.due("two lines", p.train(), 2);
        Check.due("the first one", p.car(1, 1), 12);
        Check.due("not the one that was cut off", p.car(2, 1), 14);
        // What was cut off is no part of the last TOKEN, whether it was a digit or a letter.
        for (String behind : new String[] {"5;", "x;", ";"}) {
            Check.put(p, "car old 50" + behind);
            p.end(10);
            Check.due("a number ahead of '" + behind + "'", p.train(), -11);
            Check.due("ends there", p.fault(), 1);
            Check.put(p, "let" + behind);
            p.end(3);
            Check.due("a word ahead of '" + behind + "'", p.handle(), -4);
            Check.due("ends there, too", p.fault(), 1);
        }
        Check.put(p, "car old 50;!");
        p.end(11);
        Check.due("nor what can be none", p.train(), 1);
        p.feed(1, 1, 1, 1, 1);
        Check.due("0 of 20", p.end(0), true);
        Check.due("none is there", p.count(4), 0);
    }

    private static void notSoMany() {
        TrainPipe p = new TrainPipe();
        Check.due("1 of none", p.end(1), false);
        Check.due("-1 of none", p.end(-1), false);
        Check.put(p, "car old 12;");
        for (int n : new int[] {12, 20, 740, 741, -1, -11, Calls.MOST, Calls.LEAST}) {
            Check.due("end " + n, p.end(n), false);
            Check.due("the tape stays, " + n, p.count(4), 11);
        }
        Check.due("its bytes stay", p.train(), 1);
        Check.due("they are gone with train()", p.end(1), false);
    }

    private static void texts() {
        Sentence.holds("Promise 4", "`int train()`: The tape (empty then, here and below) is the TRAIN now:",
            BoundsOfTape::theTapeIsTheTrain);
        Sentence.holds("Promise 4", "is the TRAIN now:", BoundsOfTape::nothingOlderIsLeft);
        Sentence.holds("Promise 4", "how many LINES;", BoundsOfTape::howManyLines);
        Sentence.holds("Promise 4", "-1 less the place of a FAULT: it stays.", BoundsOfTape::theTrainStays);
        Sentence.holds("Promise 5", "`int handle()`: The tape is the HANDLE now: how many STEPS;",
            BoundsOfTape::theTapeIsTheHandle);
        Sentence.holds("Promise 5", "-1 less the place of a FAULT: it stays.", BoundsOfTape::theHandleStays);
        Sentence.holds("Promise 6", "`int fault()`: The kind of the FAULT of the latest train() or handle();",
            BoundsOfTape::kindOfTheLatest);
        Sentence.holds("Promise 6", "0 without one and ahead of any.", BoundsOfTape::noFault);
    }

    private static void theTapeIsTheTrain() {
        TrainPipe p = new TrainPipe();
        Check.due("three cars", Check.train(p, "full 400;car slow 10 out;car old 20;car quick 30 leak 5;"), 4);
        Check.due("empty then", p.count(4), 0);
        Check.due("they are there", p.count(0), 3);
        Check.due("the third", p.car(3, 1), 30);
        Check.due("one car", Check.train(p, "car old 20;"), 1);
        Check.due("none of the older ones", p.count(0), 1);
        Check.due("nor what was told of them", p.car(1, 2), 0);
        Check.due("nor their full", p.at(0, 0, 0), 700);
        Check.due("an empty tape is no train", p.train(), -1);
        // Nothing of an older text is left, of a good one or of one with a FAULT.
        String told = "car quick 12 out keep 2 leak 34 hose 56 stuck on;";
        for (String older : new String[] {told + told, told + told + "!"}) {
            Check.train(p, older);
            Check.due("two cars", Check.train(p, "car old 50;car old 50;"), 2);
            int[] plain = {0, 50, 0, 0, 0, 100, 0};
            for (int what = 0; what <= 6; what++) {
                Check.due("first car " + what, p.car(1, what), plain[what]);
                Check.due("second car " + what, p.car(2, what), plain[what]);
            }
        }
        // Empty behind every call that takes it, also where that call refuses.
        Check.put(p, "car");
        p.train();
        Check.due("behind a train with a fault", p.count(4), 0);
        Check.put(p, "both");
        p.handle();
        Check.due("behind a handle with a fault", p.count(4), 0);
        Check.put(p, 1, 2);
        Check.due("fits refuses", p.fits(0, -1), -1);
        Check.due("behind fits", p.count(4), 0);
        Check.put(p, 40);
        Check.due("day refuses", p.day(true), -1);
        Check.due("behind day", p.count(4), 0);
        Check.put(p, 1);
        Check.due("next refuses", p.next(), -1);
        Check.due("behind next", p.count(4), 0);
    }

    /** Behind longer TRAINS everything is answered as by an object that has never had one. */
    private static void nothingOlderIsLeft() {
        for (String secondCar : new String[] {"car quick 60 leak 3;", "car old 60 out;"}) {
            for (int call = 0; call < ASKING.size(); call++) {
                TrainPipe fresh = new TrainPipe();
                tellWhatIsAsked(fresh, secondCar);
                TrainPipe worn = new TrainPipe();
                wear(worn);
                tellWhatIsAsked(worn, secondCar);
                Check.due(call + " with " + secondCar, ASKING.get(call).applyAsInt(worn),
                    ASKING.get(call).applyAsInt(fresh));
            }
            oneLastCell(secondCar);
        }
    }

    private static void oneLastCell(String secondCar) {
        TrainPipe fresh = new TrainPipe();
        TrainPipe worn = new TrainPipe();
        wear(worn);
        tellWhatIsAsked(fresh, secondCar);
        tellWhatIsAsked(worn, secondCar);
        for (int tick = 0; tick <= 40; tick++) {
            Check.due("first cell in " + tick, worn.at(tick, 0, 0), fresh.at(tick, 0, 0));
            Check.due("last cell in " + tick, worn.at(tick, 3, 0), fresh.at(tick, 3, 0));
        }
    }

    private static void howManyLines() {
        Calls.goodTrain("car old 50;", 1);
        Calls.goodTrain("feed 9;car old 50;", 2);
        Calls.goodTrain("full 300;feed 9;" + Calls.cars(16), 18);
    }

    private static void theTrainStays() {
        TrainPipe p = Calls.pipe("full 400;feed 7;car slow 33 leak 3;car quick 44;", "dump 1;let 1;");
        int[] before = {p.count(0), p.car(1, 0), p.car(1, 1), p.car(1, 4), p.car(2, 1), p.at(2, 0, 0), p.at(5, 2, 1)};
        String[] texts = {"", "full 300;feed 8;car old 50;car old 5;", "car old 50;car old 50;car old 50;!",
            Calls.cars(17), "feed 9;feed 9;", "full 300;"};
        int[] places = {0, 35, 33, 176, 7, 9};
        for (int i = 0; i < texts.length; i++) {
            Check.due("place in '" + texts[i] + "'", Check.train(p, texts[i]), -1 - places[i]);
            int[] now = {p.count(0), p.car(1, 0), p.car(1, 1), p.car(1, 4), p.car(2, 1), p.at(2, 0, 0), p.at(5, 2, 1)};
            for (int k = 0; k < now.length; k++) {
                Check.due("stays behind '" + texts[i] + "', " + k, now[k], before[k]);
            }
        }
        Check.due("the greatest place", Check.train(p, Calls.blanks(740)), -701);
    }

    private static void theTapeIsTheHandle() {
        TrainPipe p = Calls.pipe("full 300;car old 50 hose 0;", "");
        Check.due("20 steps", Check.handle(p, "both;" + "draw 1 99;".repeat(20)), 20);
        Check.due("empty then", p.count(4), 0);
        Check.due("both ends", p.at(1, 1, 0), 299);
        Check.due("one step", Check.handle(p, "draw 9 9;"), 1);
        Check.due("the first end alone", p.at(1, 1, 0), 300);
        Check.due("by nine", p.at(1, 0, 0), 291);
        Check.due("no step", p.handle(), 0);
        Check.due("holds", p.at(9, 0, 0), 300);
        Check.due("its ticks", p.count(3), 0);
    }

    private static void theHandleStays() {
        TrainPipe p = Calls.pipe("full 300;car old 50 hose 0;", "both;draw 9 1;hold 3;");
        String[] texts = {"let 0;", "both", "dump 1;".repeat(21), "dump 5;dump 5;dump 5;!", ";", Calls.blanks(301)};
        int[] places = {4, 4, 140, 21, 0, 300};
        for (int i = 0; i < texts.length; i++) {
            Check.due("place in '" + texts[i] + "'", Check.handle(p, texts[i]), -1 - places[i]);
            Check.due("steps stay", p.count(1), 2);
            Check.due("ticks stay", p.count(3), 4);
            Check.due("both stays", p.at(5, 1, 0), 291);
            Check.due("it holds then", p.at(9, 0, 0), 291);
        }
    }

    private static void kindOfTheLatest() {
        TrainPipe p = new TrainPipe();
        Check.train(p, "car old 5;");
        Check.due("2 by train", p.fault(), 2);
        Check.handle(p, "dump 1;".repeat(21));
        Check.due("4 by handle", p.fault(), 4);
        Check.train(p, "feed 9;feed 9;");
        Check.due("3 by train", p.fault(), 3);
        Check.handle(p, "both");
        Check.due("1 by handle", p.fault(), 1);
        Check.due("asked again", p.fault(), 1);
        // Other calls that refuse tell no FAULT.
        p.fits(0, 0);
        p.day(true);
        p.next();
        p.run(99, 0, 0);
        Check.thrown("no car 9", () -> p.car(9, 0));
        Check.due("still 1", p.fault(), 1);
    }

    private static void noFault() {
        TrainPipe p = new TrainPipe();
        Check.due("ahead of any", p.fault(), 0);
        Check.train(p, "car");
        Check.train(p, "car old 50;");
        Check.due("behind a good train", p.fault(), 0);
        Check.train(p, "car");
        Check.handle(p, "");
        Check.due("behind a good handle", p.fault(), 0);
    }

    private static void cars() {
        Sentence.holds("Promise 7", "`int car(int c, int what) throws NoSuchElementException`: Of CAR c (1 to n):",
            BoundsOfTape::carsOneToN);
        Sentence.holds("Promise 7", "0 KIND (0 old, 1 quick, 2 slow), 1 WEIGHT, 2 out (1, 0), 3 KEEP, 4 leak, 5 "
            + "hose, 6 stuck (0, 1 on, 2 off).", BoundsOfTape::whatIsToldOfACar);
        Sentence.holds("Promise 7", "NoSuchElementException: no such ones.", BoundsOfTape::noSuchCar);
        Sentence.holds("Terms 5", "A call that throws changes nothing.", BoundsOfTape::throwingChangesNothing);
    }

    private static void carsOneToN() {
        TrainPipe p = new TrainPipe();
        StringBuilder text = new StringBuilder();
        for (int c = 1; c <= 16; c++) {
            text.append("car old ").append(20 + c).append(";");
            Check.train(p, text.toString());
            Check.due("the first of " + c, p.car(1, 1), 21);
            Check.due("the last of " + c, p.car(c, 1), 20 + c);
            int behind = c + 1;
            Check.thrown("none behind " + c, () -> p.car(behind, 1));
        }
    }

    private static void whatIsToldOfACar() {
        TrainPipe p = new TrainPipe();
        Check.train(p, "car quick 12 out keep 2 leak 34 hose 56 stuck on;car slow 98 stuck off;car old 10;");
        int[][] facts = {{1, 12, 1, 2, 34, 56, 1}, {2, 98, 0, 0, 0, 100, 2}, {0, 10, 0, 0, 0, 100, 0}};
        for (int c = 1; c <= 3; c++) {
            for (int what = 0; what <= 6; what++) {
                Check.due("car " + c + " " + what, p.car(c, what), facts[c - 1][what]);
            }
        }
    }

    private static void noSuchCar() {
        TrainPipe p = Calls.pipe("car old 50;car old 50;", "");
        for (int c : new int[] {0, 3, -1, 16, 17, 18, Calls.MOST, Calls.LEAST}) {
            Check.thrown("car " + c, () -> p.car(c, 0));
        }
        for (int what : new int[] {-1, 7, Calls.MOST, Calls.LEAST}) {
            Check.thrown("what " + what, () -> p.car(1, what));
        }
        Check.thrown("neither", () -> p.car(0, 7));
        Check.train(p, "car old 50;");
        Check.thrown("car 2 of the older train", () -> p.car(2, 0));
    }

    private static void throwingChangesNothing() {
        TrainPipe p = Calls.busy();
        Calls.changesNothing("car", p, () -> Check.thrown("car 3", () -> p.car(3, 0)));
        Calls.changesNothing("car", p, () -> Check.thrown("what 7", () -> p.car(1, 7)));
        Calls.changesNothing("at", p, () -> Check.thrown("tick 601", () -> p.at(601, 0, 0)));
        Calls.changesNothing("at", p, () -> Check.thrown("cell 3", () -> p.at(600, 3, 0)));
        Calls.changesNothing("at", p, () -> Check.thrown("tank of cell 0", () -> p.at(600, 0, 1)));
    }

    private static void counts() {
        Sentence.holds("Promise 27", "`int count(int what)`: 0 CARS, 1 STEPS, 2 days, 3 TICKS of the HANDLE's STEPS "
            + "together, 4 bytes of the tape.", BoundsOfTape::fiveCounts);
        Sentence.holds("Promise 27", "NONE for another what.", BoundsOfTape::anotherCount);
        Sentence.holds("Not promised", "Nothing is promised beyond the answers and state changes described above",
            BoundsOfTape::callsLeaveOneAnotherAlone);
        Sentence.holds("What it is", "An object is used for at most 512 calls after it has been made;",
            BoundsOfTape::fiveHundredAndTwelveCalls);
    }

    private static void fiveCounts() {
        TrainPipe p = new TrainPipe();
        int[] least = {1, 0, 0, 0, 0};
        for (int what = 0; what <= 4; what++) {
            Check.due("at first " + what, p.count(what), least[what]);
        }
        Check.train(p, Calls.cars(16));
        Check.handle(p, "both;" + "hold 99;".repeat(20));
        for (int d = 0; d < 40; d++) {
            Calls.day(p, false, d);
        }
        Check.put(p, Calls.blanks(740));
        int[] most = {16, 20, 40, 1980, 740};
        for (int what = 0; what <= 4; what++) {
            Check.due("at most " + what, p.count(what), most[what]);
        }
    }

    private static void anotherCount() {
        TrainPipe p = Calls.busy();
        for (int what : new int[] {-1, 5, 6, Calls.MOST, Calls.LEAST}) {
            Check.due("count " + what, p.count(what), -1);
        }
    }

    private static final List<ToIntFunction<TrainPipe>> ASKING = List.of(
        p -> p.at(9, 2, 1), p -> p.hears(3), p -> p.easy(), p -> p.run(1, 90, 3), p -> p.run(40, 3000, 90),
        p -> p.help(1, 90, 3, 5000), p -> p.parted(1, 2, 1, 90, 3), p -> p.parted(2, 300, -1, 90, 3),
        p -> p.order(1, 90, 3, 0), p -> p.order(1, 90, 3, 1), p -> p.cut(1, 90, 3, 9999), p -> p.cut(-1, 90, 0, 2500),
        p -> Calls.fits(p, 9, -1, 5, 472, 463), p -> Calls.fits(p, 3, 0, 7, 476, 466), p -> p.suspects(0),
        p -> Calls.next(p, 1, 2), p -> p.car(2, 1), p -> p.count(0));

    /** What one call asks does not change what another one answers. */
    private static void callsLeaveOneAnotherAlone() {
        for (int second = 0; second < ASKING.size(); second++) {
            int alone = ASKING.get(second).applyAsInt(asked());
            for (int first = 0; first < ASKING.size(); first++) {
                TrainPipe p = asked();
                ASKING.get(first).applyAsInt(p);
                Check.due(second + " behind " + first, ASKING.get(second).applyAsInt(p), alone);
            }
        }
    }

    private static TrainPipe asked() {
        TrainPipe p = new TrainPipe();
        tellWhatIsAsked(p, "car quick 60 leak 3;");
        return p;
    }

    private static void tellWhatIsAsked(TrainPipe p, String secondCar) {
        Check.train(p, "full 500;feed 30;car old 40;" + secondCar + "car slow 30 hose 40;");
        Check.handle(p, "both;draw 9 5;hold 3;let 9;draw 30 1;hold 1;");
        Calls.day(p, true, 1, 2, 3);
    }

    /** As much as there can be of all that is used again: longer trains and handles, more gauges and guesses. */
    private static void wear(TrainPipe p) {
        Check.handle(p, "both;" + "draw 3 9;let 5;".repeat(10));
        for (int cars : new int[] {16, 10, 6}) {
            Check.train(p, "full 900;feed 99;" + "car quick 99 keep 3 leak 9 hose 90 stuck on;".repeat(cars));
            p.run(0, 3000, 0);
            p.help(0, 300, 0, 90000);
            p.parted(cars - 1, 5, 0, 900, 0);
            p.order(0, 300, 0, 1);
            p.cut(-40, 300, 0, 90000);
            Calls.fits(p, 99, -1, 5, 1, 1, 6, 1, 1, 7, 1, 1, 5, 1, 1, 6, 1, 1, 7, 1, 1, 5, 1, 1, 5, 1, 1);
            Calls.fits(p, 99, -1, 1, 897, 892);
            p.walks(300);
        }
    }

    private static void fiveHundredAndTwelveCalls() {
        TrainPipe p = new TrainPipe();
        for (int call = 1; call < 512; call++) {
            p.run(call % 81 - 40, call, call % 91);
        }
        Check.due("the 512th", p.run(-40, 3000, 0), 111000);
    }
}
