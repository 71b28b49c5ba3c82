/**
 * Sentence by sentence: 'Terms' ==== 2. and the promises 8 to 10, what the pipe holds TICK by TICK. A CAR
 * behind a shut hose and a HANDLE with 'both' make its PRESSURE just what the HANDLE says.
 */
final class BoundsOfPipe {
    private static final String HERE = "Terms 2";

    private BoundsOfPipe() { }

    static void all() {
        beginning();
        handle();
        hosesAndLeaks();
        settingValves();
        lettingGoValves();
        promises();
    }

    /** One CAR behind a shut hose. */
    private static TrainPipe lone(int full, int feed, String kind, String more, String handle) {
        String text = "full " + full + ";feed " + feed + ";car " + kind + " 50 hose 0 " + more + ";";
        return Calls.pipe(text, "both;" + handle);
    }

    private static void beginning() {
        Sentence.holds(HERE, "Each CELL has a PRESSURE, each CAR a TANK and a CYLINDER (0 to 500): at first FULL, "
            + "FULL, 0.", BoundsOfPipe::atFirst);
        Sentence.holds(HERE, "In each TICK 1, 2, ..:", BoundsOfPipe::fromTickOneOn);
    }

    private static void atFirst() {
        for (int full : new int[] {300, 900}) {
            TrainPipe p = Calls.pipe("full " + full + ";car old 50;car quick 50 out;", "dump 1;");
            Check.due("the engine's cell", p.at(0, 0, 0), full);
            Calls.state(p, 0, 1, full, full, 0);
            Calls.state(p, 0, 2, full, full, 0);
        }
        // A CYLINDER from 0 to 500 and back, never beyond.
        TrainPipe p = lone(900, 99, "quick", "", "dump 9;let 99;");
        int most = 0;
        int least = 0;
        for (int tick = 0; tick <= 60; tick++) {
            most = Math.max(most, p.at(tick, 1, 2));
            least = Math.min(least, p.at(tick, 1, 2));
        }
        Check.due("the most", most, 500);
        Check.due("the least", least, 0);
        Check.due("back at 0", p.at(60, 1, 2), 0);
    }

    private static void fromTickOneOn() {
        TrainPipe p = lone(300, 9, "old", "", "dump 1;");
        Check.due("nothing in tick 0", p.at(0, 0, 0), 300);
        Calls.state(p, 0, 1, 300, 300, 0);
        Check.due("the first step in tick 1", p.at(1, 0, 0), 0);
        Calls.state(p, 1, 1, 0, 280, 40);
        Calls.state(p, 2, 1, 0, 260, 80);
    }

    private static void handle() {
        Sentence.holds(HERE, "first the HANDLE, on CELL 0 (with 'both' on the last CELL, too):",
            BoundsOfPipe::handleOnOneOrBothEnds);
        Sentence.holds(HERE, "let: FEED more, up to FULL (none, if it is there or above);",
            BoundsOfPipe::letUpToFull);
        Sentence.holds(HERE, "draw: D less; dump: 0 (never below 0).", BoundsOfPipe::neverBelowZero);
    }

    private static void handleOnOneOrBothEnds() {
        String three = "car old 50 hose 0;".repeat(3);
        TrainPipe p = Calls.pipe(three, "draw 9 1;");
        int[] alone = {691, 700, 700, 700};
        for (int cell = 0; cell <= 3; cell++) {
            Check.due("without both, cell " + cell, p.at(1, cell, 0), alone[cell]);
        }
        p = Calls.pipe(three, "both;draw 9 1;");
        int[] both = {691, 700, 700, 691};
        for (int cell = 0; cell <= 3; cell++) {
            Check.due("with both, cell " + cell, p.at(1, cell, 0), both[cell]);
        }
        p = lone(700, 9, "old", "", "draw 9 1;let 1;dump 1;");
        int[] ends = {700, 691, 700, 0};
        for (int tick = 0; tick <= 3; tick++) {
            Check.due("one car, cell 0, tick " + tick, p.at(tick, 0, 0), ends[tick]);
            Check.due("one car, cell 1, tick " + tick, p.at(tick, 1, 0), ends[tick]);
        }
        // The last CELL is that of the TRAIN as it is: 16 CARS.
        p = Calls.pipe("car old 50 hose 0;".repeat(16), "both;draw 9 1;");
        Check.due("cell 16", p.at(1, 16, 0), 691);
        Check.due("cell 15", p.at(1, 15, 0), 700);
        // First the HANDLE, then the hoses: a dump is felt behind the first hose in the same TICK.
        p = Calls.pipe("car old 50;", "dump 1;");
        Check.due("behind the hose", p.at(1, 1, 0), 525);
    }

    private static void letUpToFull() {
        TrainPipe p = lone(300, 99, "old", "out", "draw 98 1;let 1;draw 99 1;let 1;draw 50 2;let 1;let 1;");
        int[] due = {300, 202, 300, 201, 300, 250, 200, 299, 300, 300};
        for (int tick = 0; tick < due.length; tick++) {
            Check.due("front, tick " + tick, p.at(tick, 0, 0), due[tick]);
            Check.due("back, tick " + tick, p.at(tick, 1, 0), due[tick]);
        }
        p = lone(300, 1, "old", "out", "draw 2 1;let 9;");
        int[] byOne = {300, 298, 299, 300, 300};
        for (int tick = 0; tick < byOne.length; tick++) {
            Check.due("by 1, tick " + tick, p.at(tick, 0, 0), byOne[tick]);
        }
        p = lone(900, 99, "old", "out", "let 99;");
        Check.due("none at full", p.at(1, 0, 0), 900);
        Check.due("none at full in the end", p.at(600, 1, 0), 900);
    }

    private static void neverBelowZero() {
        TrainPipe p = lone(300, 9, "old", "out", "draw 99 9;");
        int[] due = {300, 201, 102, 3, 0, 0};
        for (int tick = 0; tick < due.length; tick++) {
            Check.due("front, tick " + tick, p.at(tick, 0, 0), due[tick]);
            Check.due("back, tick " + tick, p.at(tick, 1, 0), due[tick]);
        }
        p = lone(396, 9, "old", "out", "draw 99 9;");
        Check.due("just 0", p.at(4, 0, 0), 0);
        Check.due("still 0", p.at(5, 0, 0), 0);
        p = lone(397, 9, "old", "out", "draw 99 9;");
        Check.due("1 is left", p.at(4, 0, 0), 1);
        Check.due("then 0", p.at(5, 0, 0), 0);
        p = lone(300, 9, "old", "out", "dump 1;draw 1 1;dump 1;let 1;");
        Check.due("a dump", p.at(1, 1, 0), 0);
        Check.due("a draw of nothing", p.at(2, 1, 0), 0);
        Check.due("a dump of nothing", p.at(3, 1, 0), 0);
        Check.due("let from 0", p.at(4, 1, 0), 9);
    }

    private static void hosesAndLeaks() {
        Sentence.holds(HERE, "Then all hoses at once: from the CELL ahead to the one behind",
            BoundsOfPipe::allHosesAtOnce);
        Sentence.holds(HERE, "their difference times OPEN by 400, cut towards 0.", BoundsOfPipe::flowsCutTowardsZero);
        Sentence.holds(HERE, "Then of each CAR: PRESSURE times LEAK by 1000, cut, is lost.", BoundsOfPipe::leaksCut);
    }

    private static void allHosesAtOnce() {
        TrainPipe p = Calls.pipe("full 400;" + "car old 50 out;".repeat(3), "dump 1;hold 1;");
        int[][] due = {{400, 400, 400, 400}, {100, 300, 400, 400}, {150, 275, 375, 400}};
        for (int tick = 0; tick <= 2; tick++) {
            for (int cell = 0; cell <= 3; cell++) {
                Check.due("tick " + tick + " cell " + cell, p.at(tick, cell, 0), due[tick][cell]);
            }
        }
        p = Calls.pipe("full 400;" + "car old 50 out;".repeat(2), "both;dump 1;hold 1;");
        Check.due("from the middle to the front", p.at(1, 0, 0), 100);
        Check.due("to both sides", p.at(1, 1, 0), 200);
        Check.due("from the middle to the back", p.at(1, 2, 0), 100);
    }

    private static void flowsCutTowardsZero() {
        // From behind to ahead, and (from the middle) from ahead to behind: 399 by 400 is none, 400 is one.
        for (int full : new int[] {399, 400}) {
            TrainPipe p = Calls.pipe("full " + full + ";car old 50 out hose 1;car old 50 out hose 1;", "both;dump 1;");
            int flow = full == 400 ? 1 : 0;
            Check.due("front of " + full, p.at(1, 0, 0), flow);
            Check.due("middle of " + full, p.at(1, 1, 0), full - 2 * flow);
            Check.due("back of " + full, p.at(1, 2, 0), flow);
        }
        TrainPipe p = Calls.pipe("full 399;car old 50 out;car old 50 out;", "both;dump 1;");
        Check.due("99 of 99.75 to the front", p.at(1, 0, 0), 99);
        Check.due("99 of 99.75 to the back", p.at(1, 2, 0), 99);
        Check.due("the rest stays", p.at(1, 1, 0), 201);
        p = Calls.pipe("full 900;car old 50 out hose 0;car old 50 out hose 0;", "both;dump 1;");
        Check.due("none through a shut hose", p.at(600, 1, 0), 900);
        Check.due("nor to the back", p.at(600, 2, 0), 0);
    }

    private static void leaksCut() {
        TrainPipe p = lone(500, 9, "old", "out leak 2", "hold 1;");
        Check.due("1 of 500", p.at(1, 1, 0), 499);
        Check.due("none of 499", p.at(2, 1, 0), 499);
        Check.due("none later", p.at(600, 1, 0), 499);
        p = lone(333, 9, "old", "out leak 3", "hold 1;");
        Check.due("none of 333 by 3, which are 999", p.at(600, 1, 0), 333);
        p = lone(900, 9, "old", "out leak 99", "hold 1;");
        Check.due("89.1 of 900", p.at(1, 1, 0), 811);
        Check.due("80.2 of 811", p.at(2, 1, 0), 731);
        Check.due("10 by 99 is none", p.at(600, 1, 0), 10);
        Check.due("the engine's cell has no leak", p.at(600, 0, 0), 900);
        p = lone(900, 9, "old", "out leak 0", "hold 1;");
        Check.due("leak 0", p.at(600, 1, 0), 900);
        p = lone(900, 9, "old", "out leak 1", "hold 1;");
        Check.due("leak 1 of 900", p.at(600, 1, 0), 900);
        // Behind the hoses: what the leak takes does not count for the flow of the same TICK.
        p = Calls.pipe("full 400;car old 50 out leak 50;", "dump 1;");
        Check.due("100 flow", p.at(1, 0, 0), 100);
        Check.due("15 of 300 are lost", p.at(1, 1, 0), 285);
    }

    private static void settingValves() {
        Sentence.holds(HERE, "Then its valve, if it is not 'out', by PRESSURE less TANK:",
            BoundsOfPipe::valveUnlessOut);
        Sentence.holds(HERE, "below - SENSE: it SETS", BoundsOfPipe::setsBelowSense);
        Sentence.holds(HERE, "(not if stuck off):", BoundsOfPipe::notIfStuckOff);
        Sentence.holds(HERE, "as much as RATE, but no more than the TANK is above the PRESSURE, goes from the TANK;",
            BoundsOfPipe::noMoreThanTheTankIsAbove);
        Sentence.holds(HERE, "the CYLINDER grows by twice that (500 at most);", BoundsOfPipe::cylinderUpTo500);
        Sentence.holds(HERE, "a 'quick' one loses 8 of PRESSURE besides (none below 0).",
            BoundsOfPipe::quickLosesEight);
    }

    private static void valveUnlessOut() {
        for (String kind : new String[] {"old", "quick", "slow"}) {
            TrainPipe p = lone(300, 99, kind, "out", "dump 5;let 99;");
            Calls.state(p, 1, 1, 0, 300, 0);
            Calls.state(p, 5, 1, 0, 300, 0);
            Calls.state(p, 600, 1, 300, 300, 0);
        }
        // Behind the leak of the same TICK.
        Calls.state(lone(420, 9, "old", "leak 50", "hold 1;"), 1, 1, 399, 400, 40);
        Calls.state(lone(420, 9, "old", "leak 50 out", "hold 1;"), 1, 1, 399, 420, 0);
    }

    private static void setsBelowSense() {
        Calls.state(lone(300, 9, "old", "", "draw 20 1;hold 1;"), 1, 1, 280, 300, 0);
        Calls.state(lone(300, 9, "old", "", "draw 20 1;hold 1;"), 600, 1, 280, 300, 0);
        Calls.state(lone(300, 9, "old", "", "draw 21 1;hold 1;"), 1, 1, 279, 280, 40);
        Calls.state(lone(300, 9, "quick", "", "draw 10 1;hold 1;"), 600, 1, 290, 300, 0);
        Calls.state(lone(300, 9, "quick", "", "draw 11 1;hold 1;"), 1, 1, 281, 289, 22);
        Calls.state(lone(300, 9, "slow", "", "draw 30 1;hold 1;"), 600, 1, 270, 300, 0);
        Calls.state(lone(300, 9, "slow", "", "draw 31 1;hold 1;"), 1, 1, 269, 288, 24);
    }

    private static void notIfStuckOff() {
        for (String kind : new String[] {"old", "quick", "slow"}) {
            Calls.state(lone(300, 9, kind, "stuck off", "draw 99 1;hold 1;"), 1, 1, 201, 300, 0);
            Calls.state(lone(300, 9, kind, "stuck off", "dump 1;"), 600, 1, 0, 300, 0);
        }
        // Stuck on, it does.
        Calls.state(lone(300, 9, "old", "stuck on", "draw 21 1;hold 1;"), 1, 1, 279, 280, 40);
    }

    private static void noMoreThanTheTankIsAbove() {
        Calls.state(lone(300, 9, "quick", "", "draw 11 1;hold 1;"), 1, 1, 281, 289, 22);
        Calls.state(lone(300, 9, "quick", "", "draw 29 1;hold 1;"), 1, 1, 263, 271, 58);
        Calls.state(lone(300, 9, "quick", "", "draw 30 1;hold 1;"), 1, 1, 262, 270, 60);
        Calls.state(lone(300, 9, "quick", "", "draw 31 1;hold 1;"), 1, 1, 261, 270, 60);
        Calls.state(lone(300, 9, "old", "", "draw 99 1;hold 1;"), 1, 1, 201, 280, 40);
        Calls.state(lone(300, 9, "slow", "", "draw 99 1;hold 1;"), 1, 1, 201, 288, 24);
        // Till the TANK is within SENSE of the PRESSURE.
        Calls.state(lone(300, 9, "old", "", "dump 1;"), 600, 1, 0, 20, 500);
        Calls.state(lone(300, 9, "quick", "", "dump 1;"), 600, 1, 0, 0, 500);
        Calls.state(lone(300, 9, "slow", "", "dump 1;"), 600, 1, 0, 24, 500);
    }

    private static void cylinderUpTo500() {
        TrainPipe p = lone(900, 9, "old", "", "dump 1;");
        Calls.state(p, 12, 1, 0, 660, 480);
        Calls.state(p, 13, 1, 0, 640, 500);
        Calls.state(p, 14, 1, 0, 620, 500);
        p = lone(900, 9, "quick", "", "dump 1;");
        Calls.state(p, 8, 1, 0, 660, 480);
        Calls.state(p, 9, 1, 0, 630, 500);
        Calls.state(p, 10, 1, 0, 600, 500);
        p = lone(900, 9, "slow", "", "dump 1;");
        Calls.state(p, 20, 1, 0, 660, 480);
        Calls.state(p, 21, 1, 0, 648, 500);
        Calls.state(p, 22, 1, 0, 636, 500);
    }

    private static void quickLosesEight() {
        // Two TICKS take D and 8 each, the third D: 9, 8 and 7 are there for the valve.
        Check.due("8 of 9", lone(301, 9, "quick", "", "draw 92 9;").at(3, 1, 0), 1);
        Check.due("8 of 8", lone(300, 9, "quick", "", "draw 92 9;").at(3, 1, 0), 0);
        Check.due("7 of 7", lone(302, 9, "quick", "", "draw 93 9;").at(3, 1, 0), 0);
        Check.due("none of 0", lone(300, 9, "quick", "", "dump 1;").at(1, 1, 0), 0);
        // Only while it SETS, and only a quick one.
        Calls.state(lone(300, 9, "quick", "", "draw 11 1;hold 1;"), 2, 1, 281, 289, 22);
        Check.due("none in the second tick", lone(300, 9, "quick", "", "draw 10 1;hold 1;").at(2, 1, 0), 290);
        Check.due("an old one", lone(300, 9, "old", "", "draw 92 1;hold 1;").at(2, 1, 0), 208);
        Check.due("a slow one", lone(300, 9, "slow", "", "draw 92 1;hold 1;").at(2, 1, 0), 208);
    }

    private static void lettingGoValves() {
        Sentence.holds(HERE, "Above SENSE: it LETS GO: the CYLINDER falls by EASE,", BoundsOfPipe::letsGoAboveSense);
        Sentence.holds(HERE, "but not below 100 times KEEP", BoundsOfPipe::notBelowKeep);
        Sentence.holds(HERE, "(one that is lower stays;", BoundsOfPipe::lowerThanKeepStays);
        Sentence.holds(HERE, "with stuck on it stays as it is);", BoundsOfPipe::stuckOnStays);
        Sentence.holds(HERE, "and half of the difference, cut, 10 at most, goes from the PRESSURE to the TANK.",
            BoundsOfPipe::halfOfTheDifference);
        Sentence.holds(HERE, "Else it HOLDS.", BoundsOfPipe::elseItHolds);
        Sentence.holds(HERE, "SENSE, RATE, EASE: old 20, 20, 30; quick 10, 30, 40; slow 30, 12, 12.",
            BoundsOfPipe::senseRateEase);
        Sentence.holds(HERE, "HEARS: a CAR in a TICK, if its CYLINDER is above 0.", BoundsOfPipe::hearsAboveZero);
    }

    /** An old CAR of 300 with a TANK of 260, a PRESSURE of 259 and 80 in the CYLINDER, then fed once. */
    private static TrainPipe oldFedBy(int feed, String more) {
        return lone(300, feed, "old", more, "draw 41 1;hold 1;let 1;hold 1;");
    }

    /** A quick CAR of 300 with a TANK of 270, a PRESSURE of 262 and 60 in the CYLINDER, then fed once. */
    private static TrainPipe quickFedBy(int feed, String more) {
        return lone(300, feed, "quick", more, "draw 30 1;let 1;hold 1;");
    }

    /** A slow CAR of 300 with a TANK of 264, a PRESSURE of 238 and 72 in the CYLINDER, then fed once. */
    private static TrainPipe slowFedBy(int feed, String more) {
        return lone(300, feed, "slow", more, "draw 62 1;hold 2;let 1;hold 1;");
    }

    private static void letsGoAboveSense() {
        Calls.state(oldFedBy(9, ""), 2, 1, 259, 260, 80);
        Calls.state(oldFedBy(21, ""), 3, 1, 280, 260, 80);
        Calls.state(oldFedBy(22, ""), 3, 1, 271, 270, 50);
        Calls.state(quickFedBy(9, ""), 1, 1, 262, 270, 60);
        Calls.state(quickFedBy(18, ""), 2, 1, 280, 270, 60);
        Calls.state(quickFedBy(19, ""), 2, 1, 276, 275, 20);
        Calls.state(slowFedBy(9, ""), 3, 1, 238, 264, 72);
        Calls.state(slowFedBy(56, ""), 4, 1, 294, 264, 72);
        Calls.state(slowFedBy(57, ""), 4, 1, 285, 274, 60);
    }

    private static void notBelowKeep() {
        // 500 in the CYLINDER, then let go to the end.
        for (int keep = 0; keep <= 3; keep++) {
            TrainPipe p = lone(900, 99, "old", "keep " + keep, "dump 13;let 99;");
            Check.due("500 with keep " + keep, p.at(13, 1, 2), 500);
            Check.due("kept by " + keep, p.at(600, 1, 2), 100 * keep);
        }
        // 120 less 30 is below 100, then 100 stays 100.
        TrainPipe p = lone(300, 99, "old", "keep 1", "dump 1;let 99;");
        Calls.state(p, 3, 1, 198, 240, 120);
        Calls.state(p, 4, 1, 287, 250, 100);
        Calls.state(p, 5, 1, 290, 260, 100);
        // 20 less 40, and 60 less 40 less 40: never below 0.
        Check.due("a quick one at first", quickFedBy(19, "").at(2, 1, 2), 20);
        p = lone(300, 38, "quick", "", "draw 30 1;let 9;");
        Check.due("60 less 40", p.at(2, 1, 2), 20);
        Check.due("0 at least", p.at(3, 1, 2), 0);
    }

    private static void lowerThanKeepStays() {
        for (int keep = 2; keep <= 3; keep++) {
            TrainPipe p = lone(300, 99, "old", "keep " + keep, "dump 1;let 99;");
            Calls.state(p, 3, 1, 198, 240, 120);
            Calls.state(p, 4, 1, 287, 250, 120);
            Check.due("to the end", p.at(600, 1, 2), 120);
        }
        Calls.state(oldFedBy(22, "keep 1"), 3, 1, 271, 270, 80);
        Calls.state(quickFedBy(19, "keep 1"), 2, 1, 276, 275, 60);
        Calls.state(slowFedBy(57, "keep 1"), 4, 1, 285, 274, 72);
    }

    private static void stuckOnStays() {
        Calls.state(oldFedBy(22, "stuck on"), 3, 1, 271, 270, 80);
        Calls.state(quickFedBy(19, "stuck on"), 2, 1, 276, 275, 60);
        Calls.state(slowFedBy(57, "stuck on"), 4, 1, 285, 274, 72);
        Calls.state(oldFedBy(22, "stuck on keep 0"), 3, 1, 271, 270, 80);
        TrainPipe p = lone(900, 99, "old", "stuck on keep 1", "dump 13;let 99;");
        Check.due("500 to the end", p.at(600, 1, 2), 500);
        // Stuck off, it lets go as told.
        p = lone(300, 99, "old", "stuck off", "dump 1;let 99;");
        Calls.state(p, 600, 1, 300, 300, 0);
    }

    private static void halfOfTheDifference() {
        Calls.state(quickFedBy(19, ""), 2, 1, 276, 275, 20);
        Calls.state(quickFedBy(27, ""), 2, 1, 280, 279, 20);
        Calls.state(quickFedBy(28, ""), 2, 1, 280, 280, 20);
        Calls.state(quickFedBy(29, ""), 2, 1, 281, 280, 20);
        Calls.state(quickFedBy(38, ""), 2, 1, 290, 280, 20);
        Calls.state(oldFedBy(41, ""), 3, 1, 290, 270, 50);
        Calls.state(slowFedBy(62, ""), 4, 1, 290, 274, 60);
    }

    private static void elseItHolds() {
        // A difference of just SENSE, to either side, for as long as it stays.
        Calls.state(lone(300, 9, "old", "", "draw 20 1;hold 1;"), 99, 1, 280, 300, 0);
        Calls.state(oldFedBy(21, ""), 99, 1, 280, 260, 80);
        Calls.state(lone(300, 9, "quick", "", "draw 10 1;hold 1;"), 99, 1, 290, 300, 0);
        Calls.state(quickFedBy(18, ""), 99, 1, 280, 270, 60);
        Calls.state(lone(300, 9, "slow", "", "draw 30 1;hold 1;"), 99, 1, 270, 300, 0);
        Calls.state(slowFedBy(56, ""), 99, 1, 294, 264, 72);
    }

    private static void senseRateEase() {
        String[] kinds = {"old", "quick", "slow"};
        int[] sense = {20, 10, 30};
        int[] rate = {20, 30, 12};
        int[] ease = {30, 40, 12};
        for (int k = 0; k < 3; k++) {
            TrainPipe p = lone(300, 9, kinds[k], "", "draw " + sense[k] + " 1;hold 1;");
            Check.due(kinds[k] + ", sense", p.at(9, 1, 2), 0);
            p = lone(300, 9, kinds[k], "", "draw " + (sense[k] + 1) + " 1;hold 1;");
            Check.due(kinds[k] + ", beyond sense", p.hears(1), 1);
            p = lone(900, 99, kinds[k], "", "dump 40;let 99;");
            Check.due(kinds[k] + ", rate", p.at(1, 1, 1), 900 - rate[k]);
            Check.due(kinds[k] + ", twice the rate", p.at(1, 1, 2), 2 * rate[k]);
            int last = 41;
            while (last < 100 && p.at(last, 1, 2) == 500) {
                last++;
            }
            Check.due(kinds[k] + ", ease", p.at(last, 1, 2), 500 - ease[k]);
        }
    }

    private static void hearsAboveZero() {
        Check.due("22 in the first tick", lone(300, 9, "quick", "", "draw 11 1;hold 1;").hears(1), 1);
        Check.due("0 for ever", lone(300, 9, "quick", "", "draw 10 1;hold 1;").hears(1), -1);
        TrainPipe p = Calls.pipe("car old 50;car old 50;", "dump 1;");
        Check.due("the first car", p.hears(1), 1);
        Check.due("the second, one tick later", p.hears(2), 2);
        Check.due("it has none in tick 1", p.at(1, 2, 2), 0);
        Check.due("it has some in tick 2", p.at(2, 2, 2), 40);
    }

    private static void promises() {
        Sentence.holds("Promise 8", "`int at(int tick, int cell, int what) throws NoSuchElementException`: By the "
            + "HANDLE, at the end of a TICK (0 to 600):", BoundsOfPipe::ticks0To600);
        Sentence.holds("Promise 8", "the PRESSURE of a CELL (what 0), the TANK (1), the CYLINDER (2) of a CAR.",
            BoundsOfPipe::pressureTankCylinder);
        Sentence.holds("Promise 8", "NoSuchElementException: no such ones.", BoundsOfPipe::noSuchCell);
        Sentence.holds("Promise 9", "`int hears(int c)`: The first TICK (1 to 600) in which a CAR HEARS;",
            BoundsOfPipe::firstTickHeard);
        Sentence.holds("Promise 9", "NONE: none, or no such CAR.", BoundsOfPipe::neverHeard);
        Sentence.holds("Promise 10", "`int easy()`: The first TICK (1 to 600) behind which no CAR's CYLINDER is "
            + "above 0, though one HEARD ahead of it;", BoundsOfPipe::firstEasyTick);
        Sentence.holds("Promise 10", "NONE: none.", BoundsOfPipe::neverEasy);
    }

    private static void ticks0To600() {
        TrainPipe p = lone(900, 9, "old", "out", "draw 1 1;");
        Check.due("tick 0", p.at(0, 0, 0), 900);
        Check.due("tick 1", p.at(1, 0, 0), 899);
        Check.due("tick 599", p.at(599, 0, 0), 301);
        Check.due("tick 600", p.at(600, 0, 0), 300);
        for (int tick : new int[] {-1, 601, Calls.MOST, Calls.LEAST}) {
            Check.thrown("tick " + tick, () -> p.at(tick, 0, 0));
            Check.thrown("tick " + tick + " of a tank", () -> p.at(tick, 1, 1));
        }
        Check.due("asked back again", p.at(1, 0, 0), 899);
    }

    private static void pressureTankCylinder() {
        TrainPipe p = Calls.pipe("car old 50;car quick 50;", "dump 1;");
        Check.due("the engine's pressure", p.at(1, 0, 0), 175);
        Calls.state(p, 1, 1, 525, 680, 40);
        Calls.state(p, 1, 2, 700, 700, 0);
    }

    private static void noSuchCell() {
        TrainPipe p = Calls.pipe("car old 50;car old 50;", "dump 1;");
        Check.thrown("tank of the engine", () -> p.at(0, 0, 1));
        Check.thrown("cylinder of the engine", () -> p.at(0, 0, 2));
        for (int what = 0; what <= 2; what++) {
            for (int cell : new int[] {-1, 3, 16, 17, Calls.MOST, Calls.LEAST}) {
                int asked = what;
                Check.thrown("cell " + cell + " what " + what, () -> p.at(0, cell, asked));
            }
        }
        for (int what : new int[] {-1, 3, Calls.MOST, Calls.LEAST}) {
            Check.thrown("what " + what, () -> p.at(0, 1, what));
            Check.thrown("what " + what + " of the engine", () -> p.at(0, 0, what));
        }
        Check.due("cell 2 is there", p.at(0, 2, 0), 700);
    }

    private static void firstTickHeard() {
        Check.due("in tick 1", Calls.pipe("car old 50;", "dump 1;").hears(1), 1);
        String long599 = "hold 99;".repeat(6) + "hold 5;";
        Check.due("in tick 600", Calls.pipe("car old 50;", long599 + "dump 1;").hears(1), 600);
        Check.due("in tick 599", Calls.pipe("car old 50;", "hold 99;".repeat(6) + "hold 4;dump 1;").hears(1), 599);
        // The first one, though it lets go and HEARS again.
        TrainPipe p = lone(300, 99, "old", "", "hold 5;dump 1;let 30;dump 1;");
        Check.due("the first of two", p.hears(1), 6);
        Check.due("it has let go between", p.at(30, 1, 2), 0);
        p = Calls.pipe("car old 50;".repeat(16), "both;dump 1;");
        Check.due("the 16th", p.hears(16), 1);
    }

    private static void neverHeard() {
        Check.due("a new object", new TrainPipe().hears(1), -1);
        Check.due("in tick 601", Calls.pipe("car old 50;", "hold 99;".repeat(6) + "hold 6;dump 1;").hears(1), -1);
        TrainPipe p = Calls.pipe("car old 50 out;car old 50 stuck off;", "both;dump 1;");
        Check.due("an out one", p.hears(1), -1);
        Check.due("one stuck off", p.hears(2), -1);
        p = Calls.pipe("car old 50;car old 50;", "both;dump 1;");
        for (int c : new int[] {0, 3, -1, 16, 17, Calls.MOST, Calls.LEAST}) {
            Check.due("car " + c, p.hears(c), -1);
        }
    }

    private static void firstEasyTick() {
        // The quick CAR has 60, 20, 0 in its CYLINDER behind the TICKS 1, 2, 3.
        TrainPipe p = lone(300, 38, "quick", "", "draw 30 1;let 9;");
        Check.due("60", p.at(1, 1, 2), 60);
        Check.due("20", p.at(2, 1, 2), 20);
        Check.due("0", p.at(3, 1, 2), 0);
        Check.due("tick 3", p.easy(), 3);
        // 22 in one TICK, 0 in the next: the earliest there is.
        Check.due("tick 2", lone(300, 19, "quick", "", "draw 11 1;let 9;").easy(), 2);
        // TICKS ahead of the first that is HEARD do not count, and it may be set again later.
        Check.due("nine later", lone(300, 38, "quick", "", "hold 9;draw 30 1;let 9;").easy(), 12);
        Check.due("set again", lone(300, 38, "quick", "", "draw 30 1;let 2;dump 1;").easy(), 3);
        String hold597 = "hold 99;".repeat(6) + "hold 3;";
        Check.due("tick 600", lone(300, 38, "quick", "", hold597 + "draw 30 1;let 9;").easy(), 600);
        // All CARS have to be at 0, whichever is the last.
        p = Calls.pipe("full 300;feed 99;car quick 50;car old 50;", "both;dump 1;let 99;");
        Check.due("the second is at 0", p.at(7, 2, 2), 0);
        Check.due("the first is not", p.at(7, 1, 2), 20);
        Check.due("both are", p.easy(), 8);
        p = Calls.pipe("full 300;feed 38;car old 50 out;car quick 50 hose 0;", "both;draw 30 1;let 9;");
        Check.due("the first was never above 0", p.easy(), 3);
    }

    private static void neverEasy() {
        Check.due("never heard", new TrainPipe().easy(), -1);
        Check.due("never let go", lone(300, 9, "old", "", "dump 1;").easy(), -1);
        String hold598 = "hold 99;".repeat(6) + "hold 4;";
        Check.due("tick 601", lone(300, 38, "quick", "", hold598 + "draw 30 1;let 9;").easy(), -1);
        Check.due("kept", lone(300, 99, "old", "keep 1", "dump 1;let 99;").easy(), -1);
        Check.due("stuck on", lone(300, 99, "old", "stuck on", "dump 1;let 99;").easy(), -1);
        Check.due("heard in the last tick alone",
            lone(300, 9, "old", "", "hold 99;".repeat(6) + "hold 5;dump 1;").easy(), -1);
        Check.due("all out", lone(300, 99, "old", "out", "dump 1;let 99;").easy(), -1);
    }
}
