/** Promises 18 to 26: GUESSES that FIT, WALKS, the BOOK. */
public final class FindTest {
    public static void main(String[] args) {
        fits();
        fitsNotAsTold();
        guessesInPlaceOfWhatIsTold();
        hotCars();
        walks();
        walkOfManyCars();
        days();
        suspects();
        mending();
        foreseeing();
        Check.close("FindTest");
    }

    private static void fits() {
        TrainPipe p = new TrainPipe();
        Check.due("at rest", Calls.fits(p, 0, -1, 400, 700, 700), 5);
        Calls.fitting("at rest", p, 0, 13, 14, 15, 16);
        Check.due("none", Calls.fits(p, 0, -1, 400, 700, 701), 0);
        Calls.fitting("none", p);
        Check.due("by 1", Calls.fits(p, 1, -1, 400, 700, 701), 5);
        Check.due("all gauges count", Calls.fits(p, 0, -1, 1, 700, 700, 2, 701, 700), 0);
        Check.due("the first cell counts", Calls.fits(p, 5, -1, 1, 706, 700), 0);
        Check.due("from above", Calls.fits(p, 5, -1, 1, 695, 700), 5);
        // Leaks of 10, 20, 40 of 700: 7, 14, 28 are lost in the first TICK.
        Check.due("leak 10", Calls.fits(p, 0, -1, 1, 700, 693), 1);
        Calls.fitting("leak 10", p, 10);
        Check.due("leak 20", Calls.fits(p, 0, -1, 1, 700, 686), 1);
        Calls.fitting("leak 20", p, 11);
        Check.due("leak 40", Calls.fits(p, 0, -1, 1, 700, 672), 1);
        Calls.fitting("leak 40", p, 12);
        Check.due("leaks of 10 and 20", Calls.fits(p, 7, -1, 1, 700, 687), 2);
        Calls.fitting("leaks of 10 and 20", p, 10, 11);
        Check.handle(p, "dump 1;");
        Check.due("hose 10", Calls.fits(p, 0, -1, 1, 17, 683), 1);
        Calls.fitting("hose 10", p, 13);
        Check.due("hose 30", Calls.fits(p, 0, -1, 1, 52, 648), 1);
        Calls.fitting("hose 30", p, 14);
        Check.due("the handle counts", Calls.fits(p, 0, -1, 1, 175, 525), 3);
        Calls.fitting("the handle counts", p, 0, 15, 16);
    }

    private static void fitsNotAsTold() {
        TrainPipe p = new TrainPipe();
        Check.due("fitAt ahead of any", p.fitAt(0), -1);
        Check.due("8 gauges", Calls.fits(p, 0, -1, 1, 700, 700, 1, 700, 700, 9, 700, 700, 3, 700, 700, 4, 700, 700,
            5, 700, 700, 6, 700, 700, 400, 700, 700), 5);
        Check.due("9 gauges", Calls.fits(p, 0, -1, 1, 700, 700, 1, 700, 700, 9, 700, 700, 3, 700, 700, 4, 700, 700,
            5, 700, 700, 6, 700, 700, 7, 700, 700, 400, 700, 700), -1);
        Check.due("no gauge", Calls.fits(p, 0, -1), -1);
        Check.due("tick 0", Calls.fits(p, 0, -1, 0, 700, 700), -1);
        Check.due("tick 401", Calls.fits(p, 0, -1, 401, 700, 700), -1);
        Check.due("tick 401 behind a good one", Calls.fits(p, 0, -1, 1, 700, 700, 401, 700, 700), -1);
        Check.due("off -1", Calls.fits(p, -1, -1, 1, 700, 700), -1);
        Check.due("off 100", Calls.fits(p, 100, -1, 1, 700, 700), -1);
        Check.due("hot -2", Calls.fits(p, 0, -2, 1, 700, 700), -1);
        Check.due("hot 2 of one car", Calls.fits(p, 0, 2, 1, 700, 700), -1);
        Check.put(p, 0, 1, 2, 188, 2);
        Check.due("5 bytes", p.fits(0, -1), -1);
        Check.put(p, 0, 1, 2, 188, 2, 188, 0);
        Check.due("7 bytes", p.fits(0, -1), -1);
        Calls.fitting("the latest that was not NONE", p, 0, 13, 14, 15, 16);
        Check.due("off 99", Calls.fits(p, 99, -1, 1, 700, 700), 8);
        Check.due("hot 1", Calls.fits(p, 0, 1, 1, 700, 700), 0);
        Check.due("pressures above all", Calls.fits(p, 99, -1, 1, 65535, 65535), 0);
        Check.train(p, "car old 50;".repeat(16));
        Check.due("hot of 16 cars", Calls.fits(p, 99, 65535, 1, 700, 700), 0);
        Check.due("hot of 17 cars", Calls.fits(p, 99, 65536, 1, 700, 700), -1);
        Check.due("all of 16 cars", Calls.fits(p, 99, -1, 1, 700, 700), 113);
        Check.due("the last of them", p.fitAt(112), 166);
        Check.due("none behind", p.fitAt(113), -1);
    }

    private static void guessesInPlaceOfWhatIsTold() {
        TrainPipe p = new TrainPipe();
        Check.train(p, "car old 50;car old 50 leak 40 stuck off;");
        // The told leak of 40 stays by most GUESSES; by 20 it is 10, by 22 it is 40 once more.
        Check.due("a leak of 10 in its place", Calls.fits(p, 0, -1, 1, 700, 693), 1);
        Calls.fitting("a leak of 10 in its place", p, 20);
        Check.due("as told", Calls.fits(p, 0, -1, 1, 700, 672), 13);
        Calls.fitting("as told", p, 0, 10, 11, 12, 13, 14, 15, 16, 22, 23, 24, 25, 26);
        // Stuck on in place of off: it SETS.
        Check.due("stuck on in its place", Calls.fits(p, 99, 2, 3, 690, 640), 1);
        Calls.fitting("stuck on in its place", p, 25);
        Check.due("the told train is as it was", p.car(2, 6), 2);
    }

    private static void hotCars() {
        TrainPipe p = new TrainPipe();
        Check.handle(p, "dump 9;");
        Check.due("80 is not hot", Calls.fits(p, 0, 1, 2, 131, 394), 0);
        Check.due("80 is cold", Calls.fits(p, 0, 0, 2, 131, 394), 3);
        Check.due("120 is hot", Calls.fits(p, 0, 1, 3, 98, 296), 2);
        Calls.fitting("120 is hot", p, 0, 15);
        Check.due("not hot", Calls.fits(p, 0, 0, 3, 98, 296), 1);
        Calls.fitting("not hot", p, 16);
        Check.due("at the greatest tick", Calls.fits(p, 0, 1, 3, 98, 296, 2, 131, 394), 2);
        Check.due("whichever is told first", Calls.fits(p, 0, 1, 2, 131, 394, 3, 98, 296), 2);
        Check.train(p, "full 300;feed 99;car old 50 keep 1;");
        Check.handle(p, "both;dump 1;let 99;");
        Check.due("just 100", p.at(4, 1, 2), 100);
        Calls.fits(p, 0, 1, 4, 297, 287);
        Check.due("100 is hot", p.fitAt(0), 0);
    }

    private static void walks() {
        TrainPipe p = new TrainPipe();
        Check.due("ahead of any", p.walks(1), -1);
        Check.due("walked ahead of any", p.walked(0), -1);
        Calls.fits(p, 0, -1, 400, 700, 700);
        Check.due("walked ahead of walks", p.walked(1), -1);
        Check.due("none is hot", p.walks(400), 0);
        Check.due("no car", p.walked(0), 0);
        Check.due("all pairs of five", p.walked(1), 10);
        Check.handle(p, "dump 1;");
        Check.due("by the handle as it is now", p.walks(3), 1);
        Check.due("car 1", p.walked(0), 1);
        Check.due("three hot, two not", p.walked(1), 4);
        Check.due("tick 0", p.walks(0), -1);
        Check.due("tick 401", p.walks(401), -1);
        Check.due("walked 2", p.walked(2), -1);
        Check.due("walked -1", p.walked(-1), -1);
        Check.train(p, "car old 50;car old 50;");
        Check.due("another number of cars", p.walks(3), -1);
        Check.due("walked stays", p.walked(1), 4);
        Check.train(p, "car old 50 out;");
        Check.due("by the train as it is now", p.walks(3), 0);
        Check.due("all alike", p.walked(1), 10);
        Calls.fits(p, 0, -1, 1, 1, 1);
        Check.due("no guess", p.walks(3), 0);
        Check.due("no pair", p.walked(1), 0);
        Calls.fits(p, 0, -1);
        Check.due("fits that was NONE does not count", p.walks(3), 0);
    }

    private static void walkOfManyCars() {
        TrainPipe p = new TrainPipe();
        // Shut hoses and own leaks: each GUESS 'stuck off' cools its own CAR alone, all others leave all HOT.
        Check.train(p, "car old 50 hose 0 leak 40;".repeat(16));
        int fitting = Calls.fits(p, 99, -1, 9, 700, p.at(9, 16, 0));
        Check.due("many fit", fitting > 100, true);
        Check.due("every car", p.walks(30), 16);
        Check.due("as bits", p.walked(0), 65535);
        Check.due("all that are hot everywhere", p.walked(1), (fitting - 16) * (fitting - 17) / 2);
        // At rest all but the leaks fit; 'stuck off' of either CAR needs a walk to it.
        Check.train(p, "car old 50;car old 50;");
        Check.due("at rest", Calls.fits(p, 0, -1, 400, 700, 700), 9);
        Check.handle(p, "dump 1;");
        Check.due("both cars", p.walks(4), 2);
        Check.due("both bits", p.walked(0), 3);
        // CAR 1 is out, so it is never HOT: the second one is enough.
        Check.train(p, "car old 50 out;car old 50;");
        Check.due("one car", p.walks(4), 1);
        Check.due("the second bit", p.walked(0), 2);
    }

    private static void days() {
        TrainPipe p = new TrainPipe();
        Check.due("no wagon", Calls.day(p, true), -1);
        Check.due("wagon 40", Calls.day(p, true, 1, 40), -1);
        Check.due("wagon 255", Calls.day(p, true, 255), -1);
        Check.due("twice", Calls.day(p, true, 1, 2, 1), -1);
        Check.due("17 wagons", Calls.day(p, true, 0, 1, 2, 3, 4, 5, 6, 7, 8, 9, 10, 11, 12, 13, 14, 15, 16), -1);
        Check.due("no day", p.suspects(0), -1);
        Check.due("16 wagons", Calls.day(p, true, 0, 1, 2, 3, 4, 5, 6, 7, 8, 9, 10, 11, 12, 13, 14, 39), 0);
        Check.due("16 suspects", p.suspects(0), 16);
        Check.due("wagon 39", p.suspect(15), 39);
        for (int d = 1; d < 40; d++) {
            Check.due("day " + d, Calls.day(p, d == 39, 0), d);
        }
        Check.due("a 41st day", Calls.day(p, true, 0), -1);
        Check.due("40 days", p.count(2), 40);
        Check.due("day 39", p.suspects(39), 0);
        Check.due("day 38", p.suspects(38), 15);
        Check.due("day 40", p.suspects(40), -1);
        Check.due("day -1", p.suspects(-1), -1);
        Check.due("the latest suspects stay", p.suspect(14), 39);
        TrainPipe q = new TrainPipe();
        for (int d = 0; d < 40; d++) {
            Calls.day(q, true, 7, d < 7 ? d : 8 + d % 30);
        }
        Check.due("next behind 40 days", Calls.next(q, 7), 1);
        Check.due("mended behind the 40th day", q.mended(7), true);
        Check.due("next behind that", Calls.next(q, 7), 0);
    }

    private static void suspects() {
        TrainPipe p = new TrainPipe();
        Calls.day(p, true, 1, 2);
        Calls.day(p, false, 2, 3);
        Calls.found("day 0", p, 0, 1, 2);
        Calls.found("day 1", p, 1, 1);
        Calls.day(p, false, 9);
        Calls.day(p, true, 4, 1, 5);
        Calls.found("day 3", p, 3, 1);
        TrainPipe q = new TrainPipe();
        Calls.day(q, false, 1, 2);
        Check.due("all but those that went", q.suspects(0), 38);
        Calls.day(q, true, 1, 2, 3);
        Calls.found("bad since", q, 1, 1, 2, 3);
        Calls.day(q, true, 1, 3);
        Calls.found("bad on", q, 2, 1, 3);
        Calls.day(q, false, 1);
        Calls.found("not any more", q, 3, 3);
        Calls.day(q, true, 4);
        Calls.found("none", q, 4);
    }

    private static void mending() {
        TrainPipe p = new TrainPipe();
        Check.due("no day yet", p.mended(1), false);
        Calls.day(p, true, 1, 2);
        Check.due("wagon -1", p.mended(-1), false);
        Check.due("wagon 40", p.mended(40), false);
        Check.due("wagon 39", p.mended(39), true);
        Check.due("wagon 1", p.mended(1), true);
        Calls.day(p, false, 1, 3);
        Calls.found("mended, so cold", p, 1, 1, 2);
        Calls.day(p, true, 1);
        Calls.found("mended, but hot", p, 2);
        // Mended ahead of its first bad day does not count.
        TrainPipe q = new TrainPipe();
        Calls.day(q, false, 1, 2);
        q.mended(1);
        Calls.day(q, true, 1, 3);
        Calls.day(q, true, 1, 3, 4);
        Calls.found("mended too early", q, 2, 1, 3);
        q.mended(3);
        Calls.day(q, false, 3);
        Calls.found("mended behind the latest day", q, 3, 1, 3);
    }

    private static void foreseeing() {
        TrainPipe p = new TrainPipe();
        Check.due("no day", Calls.next(p, 1), -1);
        Calls.day(p, true, 1, 2);
        Check.due("by all", Calls.next(p, 2, 1), 1);
        Check.due("by one of two", Calls.next(p, 1, 9), 2);
        Check.due("by none", Calls.next(p, 9), 0);
        Check.due("no wagon", Calls.next(p), -1);
        Check.due("wagon 40", Calls.next(p, 1, 40), -1);
        Check.due("twice", Calls.next(p, 1, 1), -1);
        p.mended(1);
        Check.due("one is mended", Calls.next(p, 1, 2), 2);
        Check.due("the mended one", Calls.next(p, 1), 0);
        p.mended(2);
        Check.due("both are mended", Calls.next(p, 1, 2), 0);
        Check.due("next is no day", p.count(2), 1);
        Calls.day(p, true, 7);
        Check.due("no suspects", Calls.next(p, 1), -1);
        // Wagon 5 may be bad from day 0 (and be mended behind it) or from day 1 on: the latest counts.
        TrainPipe q = new TrainPipe();
        Calls.day(q, false, 1);
        q.mended(5);
        Calls.day(q, false, 1);
        Check.due("from the latest day on", Calls.next(q, 5), 2);
        q.mended(5);
        Check.due("mended again", Calls.next(q, 5), 0);
        q.suspects(0);
        Calls.next(q, 1);
        Check.due("next leaves the suspects alone", q.suspect(0), 0);
    }
}
