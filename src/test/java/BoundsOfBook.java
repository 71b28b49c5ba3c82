/** Sentence by sentence: 'Terms' ==== 5. and the promises 22 to 26, the BOOK of days. */
final class BoundsOfBook {
    private static final String HERE = "Terms 5";
    private static final int[] SIXTEEN = {0, 1, 2, 3, 4, 5, 6, 7, 8, 9, 10, 11, 12, 13, 14, 39};
    private static final int[] SEVENTEEN = {0, 1, 2, 3, 4, 5, 6, 7, 8, 9, 10, 11, 12, 13, 14, 15, 16};

    private BoundsOfBook() { }

    static void all() {
        book();
        suspectedWagons();
        daysAndMending();
        answers();
    }

    private static void book() {
        Sentence.holds(HERE, "A BOOK of days (40):", BoundsOfBook::fortyDays);
        Sentence.holds(HERE, "on each a row of wagons (numbers 0 to 39;", BoundsOfBook::wagons0To39);
        Sentence.holds(HERE, "1 to 16, unlike) went,", BoundsOfBook::oneToSixteenUnlike);
        Sentence.holds(HERE, "and it was HOT or not;", BoundsOfBook::hotOrNot);
        Sentence.holds(HERE, "a wagon may be MENDED behind a day.", BoundsOfBook::mendedBehindADay);
    }

    private static void fortyDays() {
        TrainPipe p = new TrainPipe();
        for (int d = 0; d < 40; d++) {
            Check.due("day " + d, Calls.day(p, true, 7), d);
        }
        Check.due("a 41st", Calls.day(p, true, 7), -1);
        Check.due("forty", p.count(2), 40);
        Calls.found("by the first", p, 0, 7);
        Calls.found("by the last", p, 39, 7);
        Check.due("there is no 41st", p.suspects(40), -1);
        // Behind 40 days the BOOK can still be mended and asked.
        Check.due("next", Calls.next(p, 7), 1);
        Check.due("mended", p.mended(7), true);
        Check.due("next, mended", Calls.next(p, 7), 0);
    }

    private static void wagons0To39() {
        TrainPipe p = new TrainPipe();
        Check.due("wagon 0", Calls.day(p, true, 0), 0);
        Calls.found("wagon 0", p, 0, 0);
        p = new TrainPipe();
        Check.due("wagon 39", Calls.day(p, true, 39), 0);
        Calls.found("wagon 39", p, 0, 39);
        Check.due("wagon 40", Calls.day(p, true, 40), -1);
        Check.due("wagon 40 behind a good one", Calls.day(p, true, 3, 40), -1);
        Check.due("wagon 64", Calls.day(p, true, 64), -1);
        Check.due("wagon 128", Calls.day(p, true, 128), -1);
        Check.due("wagon 255", Calls.day(p, true, 255), -1);
        Check.due("one day", p.count(2), 1);
        // Wagons that never went are wagons as well.
        p = new TrainPipe();
        Calls.day(p, false, 5);
        Check.due("all but wagon 5", p.suspects(0), 39);
        Check.due("the last of them", p.suspect(38), 39);
        Check.due("wagon 6 is the sixth", p.suspect(5), 6);
    }

    private static void oneToSixteenUnlike() {
        TrainPipe p = new TrainPipe();
        Check.due("none", Calls.day(p, true), -1);
        Check.due("seventeen", Calls.day(p, true, SEVENTEEN), -1);
        Check.due("twice", Calls.day(p, true, 1, 1), -1);
        Check.due("twice, apart", Calls.day(p, true, 1, 2, 3, 1), -1);
        Check.due("twice 39", Calls.day(p, true, 39, 0, 39), -1);
        Check.due("twice 0", Calls.day(p, true, 0, 0), -1);
        Check.due("no day", p.count(2), 0);
        Check.due("one", Calls.day(p, true, 9), 0);
        p = new TrainPipe();
        Check.due("sixteen", Calls.day(p, true, SIXTEEN), 0);
        Calls.found("sixteen", p, 0, SIXTEEN);
        // In any order.
        p = new TrainPipe();
        Check.due("falling", Calls.day(p, true, 30, 20, 10), 0);
        Calls.found("rising", p, 0, 10, 20, 30);
    }

    private static void hotOrNot() {
        TrainPipe p = new TrainPipe();
        Calls.day(p, true, 1, 2);
        Calls.found("hot: those that went", p, 0, 1, 2);
        p = new TrainPipe();
        Calls.day(p, false, 1, 2);
        Check.due("not: those that did not", p.suspects(0), 38);
        Check.due("wagon 0", p.suspect(0), 0);
        Check.due("then wagon 3", p.suspect(1), 3);
    }

    private static void mendedBehindADay() {
        TrainPipe p = new TrainPipe();
        Check.due("ahead of the first day", p.mended(1), false);
        Calls.day(p, true, 1, 2);
        Check.due("behind it", p.mended(1), true);
        Check.due("twice", p.mended(1), true);
        Check.due("another one", p.mended(3), true);
        Calls.day(p, false, 1, 4);
        Calls.found("cold, since it is mended", p, 1, 1, 2);
    }

    private static void suspectedWagons() {
        Sentence.holds(HERE, "SUSPECTS of a day: wagons that, being the one bad wagon from some day up to it on",
            BoundsOfBook::badFromSomeDayOn);
        Sentence.holds(HERE, "(till it is MENDED behind that day),", BoundsOfBook::tillItIsMended);
        Sentence.holds(HERE, "make the days up to it just HOT or not as they were.", BoundsOfBook::daysUpToItAlone);
        Sentence.holds(HERE, "By a SUSPECT a day told next is HOT, if it is among its wagons and bad still,",
            BoundsOfBook::amongItsWagonsAndBadStill);
        Sentence.holds(HERE, "being so from the latest day on from which it can be.", BoundsOfBook::fromTheLatestDay);
    }

    private static void badFromSomeDayOn() {
        // From the first day on, from the last day on, from one between.
        TrainPipe p = new TrainPipe();
        Calls.day(p, true, 1);
        Calls.day(p, true, 1, 2);
        Calls.found("from day 0 on", p, 1, 1);
        p = new TrainPipe();
        Calls.day(p, false, 1, 2);
        Calls.day(p, false, 1);
        Calls.day(p, true, 1, 3);
        Calls.found("from day 2 on", p, 2, 1, 3);
        Calls.day(p, true, 1);
        Calls.found("from day 2 on, by day 3", p, 3, 1);
        // Not from a day behind it: a wagon that went on a cold day is none, though it may turn bad later.
        Calls.day(p, false, 1);
        Calls.found("cold with it", p, 4);
        // The ONE bad wagon: no two share the HOT days.
        p = new TrainPipe();
        Calls.day(p, true, 1);
        Calls.day(p, true, 2);
        Calls.found("two hot days without one in common", p, 1);
        // A wagon that never went is none behind a HOT day, but is one while all days are cold.
        p = new TrainPipe();
        Calls.day(p, false, 1);
        Check.due("never went, all cold", p.suspects(0), 39);
        Calls.day(p, true, 1);
        Calls.found("never went, hot", p, 1, 1);
    }

    private static void tillItIsMended() {
        // Behind its first bad day itself.
        TrainPipe p = new TrainPipe();
        Calls.day(p, true, 1);
        p.mended(1);
        Calls.day(p, false, 1);
        Calls.found("mended behind day 0", p, 1, 1);
        Calls.day(p, true, 1);
        Calls.found("it is bad but once", p, 2);
        // Behind a later bad day.
        p = new TrainPipe();
        Calls.day(p, true, 1);
        Calls.day(p, true, 1, 2);
        p.mended(1);
        Calls.day(p, false, 1);
        Calls.found("mended behind day 1", p, 2, 1);
        // Behind a day ahead of its first bad one: that does not count.
        p = new TrainPipe();
        Calls.day(p, false, 1);
        p.mended(1);
        Calls.day(p, true, 1);
        Calls.day(p, true, 1);
        Calls.found("mended too early", p, 2, 1);
        // Another wagon's mending does not count.
        p = new TrainPipe();
        Calls.day(p, true, 1);
        p.mended(2);
        Calls.day(p, false, 1);
        Calls.found("another one was mended", p, 1);
        // Bad and MENDED without having gone HOT: it went on cold days alone, behind the mending.
        p = new TrainPipe();
        Calls.day(p, false, 2);
        p.mended(1);
        Calls.day(p, false, 1);
        Check.due("bad on day 0 alone", p.suspects(1), 40);
        Check.due("wagon 1 among them", p.suspect(1), 1);
        Check.due("wagon 2, too: bad from day 1 on", p.suspect(2), 2);
        p.mended(1);
        Calls.day(p, false, 2);
        Check.due("not wagon 2 any more", p.suspects(2), 39);
        Check.due("but wagon 3", p.suspect(2), 3);
    }

    private static void daysUpToItAlone() {
        TrainPipe p = new TrainPipe();
        Calls.day(p, true, 1, 2, 3);
        Calls.day(p, false, 3);
        Calls.day(p, true, 1);
        Calls.found("day 0", p, 0, 1, 2, 3);
        Calls.found("day 1", p, 1, 1, 2);
        Calls.found("day 2", p, 2, 1);
        // A mending behind the day itself does not change it.
        p = new TrainPipe();
        Calls.day(p, true, 1, 2);
        p.mended(1);
        Calls.found("mended behind the day itself", p, 0, 1, 2);
        // The day itself counts, HOT or not.
        Calls.day(p, false, 2);
        Calls.found("the day itself", p, 1, 1);
    }

    private static void amongItsWagonsAndBadStill() {
        TrainPipe p = new TrainPipe();
        Calls.day(p, true, 1);
        Check.due("among them", Calls.next(p, 5, 1), 1);
        Check.due("not among them", Calls.next(p, 5, 6), 0);
        p.mended(1);
        Check.due("mended behind the latest day", Calls.next(p, 5, 1), 0);
        p = new TrainPipe();
        Calls.day(p, true, 1);
        p.mended(1);
        Calls.day(p, false, 1);
        Check.due("mended behind an older day", Calls.next(p, 1), 0);
        // MENDED ahead of its first bad day: bad still.
        p = new TrainPipe();
        Calls.day(p, false, 1);
        p.mended(1);
        Calls.day(p, true, 1);
        Check.due("mended too early", Calls.next(p, 1), 1);
    }

    private static void fromTheLatestDay() {
        // Wagon 1 never went: it may be bad from day 0, 1 or 2 on, and was MENDED behind day 1.
        TrainPipe p = new TrainPipe();
        Calls.day(p, false, 30, 31, 32, 33, 34, 35, 36, 37, 38, 39);
        Calls.day(p, false, 14, 15, 16, 17, 18, 19, 20, 21, 22, 23, 24, 25, 26, 27, 28, 29);
        p.mended(1);
        Calls.day(p, false, 0, 2, 3, 4, 5, 6, 7, 8, 9, 10, 11, 12, 13);
        // So may those of the days 0 and 1, from day 2 on.
        Check.due("by day 2", p.suspects(2), 27);
        Check.due("wagon 1 is the first of them", p.suspect(0), 1);
        Check.due("by some: bad from day 2 on, behind the mending", Calls.next(p, 1), 2);
        p.mended(1);
        Check.due("by none: mended behind day 2, too", Calls.next(p, 1), 0);
        // The latest from which it can be, not the latest there is.
        p = new TrainPipe();
        Calls.day(p, true, 1, 2);
        Calls.day(p, true, 1);
        p.mended(1);
        Check.due("it has to be bad since day 0", Calls.next(p, 1), 0);
    }

    private static void daysAndMending() {
        Sentence.holds("Promise 22", "`int day(boolean hot)`: One day more in the BOOK, the tape's bytes being "
            + "wagons: its number;", BoundsOfBook::numberOfTheDay);
        Sentence.holds("Promise 22", "NONE: there are 40, or not as told.", BoundsOfBook::noDayMore);
        Sentence.holds("Promise 23", "`boolean mended(int wagon)`: A wagon is MENDED behind the latest day: true;",
            BoundsOfBook::mendedBehindTheLatest);
        Sentence.holds("Promise 23", "false: no such wagon, or there is no day.", BoundsOfBook::notMended);
    }

    private static void numberOfTheDay() {
        TrainPipe p = new TrainPipe();
        Check.due("the first", Calls.day(p, false, 1), 0);
        Check.due("the second", Calls.day(p, true, 1), 1);
        Check.due("refused", Calls.day(p, true, 40), -1);
        Check.due("the third", Calls.day(p, true, 1), 2);
        Check.due("three", p.count(2), 3);
        // Its number is what suspects() is asked with.
        Calls.found("day 2", p, 2, 1);
        Check.due("day 3", p.suspects(3), -1);
    }

    private static void noDayMore() {
        TrainPipe p = new TrainPipe();
        Calls.day(p, true, 1, 2);
        p.suspects(0);
        int[][] wrong = {{}, {40}, {1, 1}, SEVENTEEN, {255}};
        for (int[] row : wrong) {
            Check.due("refused", Calls.day(p, false, row), -1);
            Check.due("refused, hot", Calls.day(p, true, row), -1);
            Check.due("one day", p.count(2), 1);
            Check.due("the suspects stay", p.suspect(1), 2);
        }
        Check.put(p, Calls.blanks(740));
        Check.due("740 wagons", p.day(true), -1);
        Check.due("the tape behind 740", p.count(4), 0);
        for (int d = 1; d < 40; d++) {
            Calls.day(p, true, 1);
        }
        Check.due("there are 40", Calls.day(p, false, 1), -1);
        Check.due("there are 40, not as told either", Calls.day(p, false, 1, 1), -1);
        Calls.found("the 40th is as it was", p, 39, 1);
    }

    private static void mendedBehindTheLatest() {
        TrainPipe p = new TrainPipe();
        Calls.day(p, true, 0, 39);
        Check.due("wagon 0", p.mended(0), true);
        Check.due("wagon 39", p.mended(39), true);
        Check.due("one that never went", p.mended(20), true);
        Calls.day(p, false, 0, 39);
        Calls.found("both were mended", p, 1, 0, 39);
        // Behind the latest day, not behind an older one: day 1 was cold with both, so behind day 0.
        p = new TrainPipe();
        Calls.day(p, true, 1);
        Calls.day(p, false, 1);
        p.mended(1);
        Calls.found("too late for day 1", p, 1);
        Check.due("what is mended is no day", p.count(2), 2);
    }

    private static void notMended() {
        TrainPipe p = new TrainPipe();
        Check.due("no day", p.mended(1), false);
        Calls.day(p, true, 40);
        Check.due("a refused day is none", p.mended(1), false);
        Calls.day(p, true, 1);
        for (int wagon : new int[] {-1, 40, 41, 63, 64, 65, Calls.MOST, Calls.LEAST}) {
            Check.due("wagon " + wagon, p.mended(wagon), false);
        }
        // 65 is 1 by the wrap-around of a shift: wagon 1 is bad still.
        Check.due("none was mended", Calls.next(p, 1), 1);
    }

    private static void answers() {
        Sentence.holds("Promise 24", "`int suspects(int d)`: How many SUSPECTS there are by day d;",
            BoundsOfBook::howManySuspects);
        Sentence.holds("Promise 24", "NONE: no such day.", BoundsOfBook::noSuchDay);
        Sentence.holds("Promise 25", "`int suspect(int k)`: The k-th of them (rising) of the latest suspects() that "
            + "was not NONE;", BoundsOfBook::theLatestSuspects);
        Sentence.holds("Promise 25", "NONE: there is none such, or ahead of any.", BoundsOfBook::noneSuspect);
        Sentence.holds("Promise 26", "`int next()`: Whether the day told next with these wagons (the tape's bytes) "
            + "would be HOT by all SUSPECTS of the latest day (1), by none (0), by some alone (2);",
            BoundsOfBook::byAllNoneOrSome);
        Sentence.holds("Promise 26", "NONE: not as told, no SUSPECTS, or no day.", BoundsOfBook::noNext);
    }

    private static void howManySuspects() {
        TrainPipe p = new TrainPipe();
        Calls.day(p, true, SIXTEEN);
        Check.due("sixteen", p.suspects(0), 16);
        Calls.day(p, true, 39);
        Check.due("one", p.suspects(1), 1);
        Calls.day(p, true, 20);
        Check.due("none", p.suspects(2), 0);
        Check.due("sixteen again", p.suspects(0), 16);
        // The most: all 40, if the one that went was MENDED ahead of its cold day.
        p = new TrainPipe();
        Calls.day(p, false, 5);
        p.mended(6);
        Calls.day(p, false, 6);
        Check.due("all forty", p.suspects(1), 40);
        Check.due("the last of forty", p.suspect(39), 39);
        Check.due("none behind forty", p.suspect(40), -1);
    }

    private static void noSuchDay() {
        TrainPipe p = new TrainPipe();
        Check.due("no day 0", p.suspects(0), -1);
        Calls.day(p, true, 1);
        for (int d : new int[] {-1, 1, 39, 40, Calls.MOST, Calls.LEAST}) {
            Check.due("day " + d, p.suspects(d), -1);
        }
        Check.due("day 0", p.suspects(0), 1);
    }

    private static void theLatestSuspects() {
        TrainPipe p = new TrainPipe();
        Calls.day(p, true, 9, 3, 27);
        Calls.found("rising", p, 0, 3, 9, 27);
        p.suspects(1);
        p.suspects(-1);
        Check.due("behind some that were NONE", p.suspect(2), 27);
        Calls.day(p, true, 9);
        p.mended(9);
        Calls.next(p, 9);
        Check.due("behind a day, a mending and next", p.suspect(2), 27);
        Calls.found("fewer", p, 1, 9);
        Calls.day(p, true, 1);
        Calls.found("none", p, 2);
    }

    private static void noneSuspect() {
        TrainPipe p = new TrainPipe();
        for (int k = -1; k <= 2; k++) {
            Check.due("ahead of any " + k, p.suspect(k), -1);
        }
        p.suspects(0);
        Check.due("behind one that was NONE", p.suspect(0), -1);
        Calls.day(p, true, 1, 2);
        Check.due("a day alone finds none", p.suspect(0), -1);
        Calls.next(p, 1);
        Check.due("nor does next", p.suspect(0), -1);
        p.suspects(0);
        for (int k : new int[] {-1, 2, 39, 40, 41, Calls.MOST, Calls.LEAST}) {
            Check.due("suspect " + k, p.suspect(k), -1);
        }
    }

    private static void byAllNoneOrSome() {
        TrainPipe p = new TrainPipe();
        Calls.day(p, true, 1, 2, 3);
        Check.due("by all", Calls.next(p, 3, 2, 1), 1);
        Check.due("by all, and more wagons", Calls.next(p, 1, 2, 3, 4), 1);
        Check.due("by two of three", Calls.next(p, 1, 2), 2);
        Check.due("by one of three", Calls.next(p, 1), 2);
        Check.due("by none", Calls.next(p, 4), 0);
        Check.due("it is no day", p.count(2), 1);
        Check.due("asked again", Calls.next(p, 1), 2);
        // Of the latest day, whichever day suspects() was asked for.
        Calls.day(p, true, 1);
        p.suspects(0);
        Check.due("of the latest day", Calls.next(p, 1), 1);
        // All are MENDED, so by none.
        p.mended(1);
        Check.due("mended", Calls.next(p, 1), 0);
        // The first and the last wagon there is.
        p = new TrainPipe();
        Calls.day(p, true, 0, 39);
        Check.due("both", Calls.next(p, 39, 0), 1);
        Check.due("wagon 0", Calls.next(p, 0), 2);
        Check.due("wagon 39", Calls.next(p, 39), 2);
        Calls.day(p, true, 0);
        Check.due("wagon 0 alone", Calls.next(p, 0), 1);
        // The most wagons.
        p = new TrainPipe();
        Calls.day(p, true, SIXTEEN);
        Check.due("sixteen", Calls.next(p, SIXTEEN), 1);
    }

    private static void noNext() {
        TrainPipe p = new TrainPipe();
        Check.due("no day", Calls.next(p, 1), -1);
        Calls.day(p, true, 1);
        int[][] wrong = {{}, {40}, {1, 40}, {1, 1}, SEVENTEEN, {255}};
        for (int[] row : wrong) {
            Check.due("not as told", Calls.next(p, row), -1);
        }
        Check.put(p, Calls.blanks(740));
        Check.due("740 wagons", p.next(), -1);
        Check.due("the tape behind 740", p.count(4), 0);
        Check.due("as told", Calls.next(p, 1), 1);
        Calls.day(p, true, 2);
        Check.due("no suspects", Calls.next(p, 1), -1);
        Check.due("no suspects at all", Calls.next(p, 1, 2), -1);
    }
}
