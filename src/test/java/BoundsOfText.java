/** Sentence by sentence: 'Terms' ==== 1., the texts of a TRAIN and of a HANDLE and their FAULTS. */
final class BoundsOfText {
    private static final String HERE = "Terms 1";

    private BoundsOfText() { }

    static void all() {
        tokens();
        trainTexts();
        faults();
        handles();
    }

    private static void tokens() {
        Sentence.holds(HERE, "A TRAIN is an engine (CELL 0) and 1 to 16 CARS (CELLS 1 .. n)",
            BoundsOfText::oneToSixteenCars);
        Sentence.holds(HERE, "told by a text of at most 700 bytes.", BoundsOfText::atMost700Bytes);
        Sentence.holds(HERE, "TOKENS, with blanks (32, 10) between them or not:", BoundsOfText::blanksOrNone);
        Sentence.holds(HERE, "WORDS: small letters, 1 to 5;", BoundsOfText::wordsOfOneToFiveLetters);
        Sentence.holds(HERE, "NUMBERS: 1 to 3 digits; ; .", BoundsOfText::numbersOfOneToThreeDigits);
        Sentence.holds(HERE, "(A WORD, NUMBER goes on as long as small letters and digits do; what is not as told "
            + "is no TOKEN.)", BoundsOfText::lettersAndDigitsGoOn);
    }

    private static void oneToSixteenCars() {
        TrainPipe one = Calls.pipe("car old 10;", "");
        Check.due("one car", one.count(0), 1);
        Check.due("cell 0", one.at(0, 0, 0), 700);
        Check.due("cell 1", one.at(0, 1, 0), 700);
        Check.thrown("cell 2 of one car", () -> one.at(0, 2, 0));
        TrainPipe many = Calls.pipe(Calls.cars(16), "");
        Check.due("sixteen cars", many.count(0), 16);
        Check.due("cell 16", many.at(0, 16, 0), 700);
        Check.thrown("cell 17 of sixteen cars", () -> many.at(0, 17, 0));
        Calls.badTrain("full 300;feed 9;", 16, 1);
        Calls.badTrain(Calls.cars(17), 176, 4);
    }

    private static void atMost700Bytes() {
        Calls.goodTrain("car old 50;" + Calls.blanks(688), 1);
        Calls.goodTrain("car old 50;" + Calls.blanks(689), 1);
        Calls.badTrain("car old 50;" + Calls.blanks(690), 700, 1);
        Calls.goodTrain(Calls.blanks(689) + "car old 50;", 1);
        Calls.badTrain(Calls.blanks(690) + "car old 50;", 700, 1);
    }

    private static void blanksOrNone() {
        for (String blank : new String[] {" ", "\n", "  ", "\n\n", " \n "}) {
            Calls.goodTrain(blank + "car" + blank + "old" + blank + "50" + blank + ";" + blank, 1);
            Calls.goodHandle(blank + "both" + blank + ";" + blank + "let" + blank + "5" + blank + ";" + blank, 1, 5);
        }
        Calls.goodTrain("full 300;feed 1;car old 50;car slow 10;", 4);
        Calls.goodHandle("both;let 5;draw 1 1;", 2, 6);
        for (int sign : new int[] {0, 9, 11, 12, 13, 31, 33, 127, 128, 138, 160, 255}) {
            Calls.badTrain((char) sign + "car old 50;", 0, 1);
            Calls.badTrain("car old 50" + (char) sign + ";", 10, 1);
            Calls.badHandle("let 5" + (char) sign + ";", 5, 1);
        }
    }

    private static void wordsOfOneToFiveLetters() {
        Calls.goodTrain("car quick 50 stuck on;", 1);
        Calls.badTrain("car quickk 50;", 4, 1);
        Calls.badTrain("car old 50 stucks on;", 11, 1);
        Calls.badTrain("c;", 0, 1);
        // The signs just ahead of 'a' and just behind 'z' are no letters: the WORD ahead of them is whole.
        Calls.badTrain("car old`50;", 7, 1);
        Calls.badTrain("car old{50;", 7, 1);
        Calls.badTrain("car olda 50;", 4, 1);
        Calls.badTrain("car oldz 50;", 4, 1);
        Calls.badTrain("car OLD 50;", 4, 1);
        Calls.badTrain("Car old 50;", 0, 1);
        Calls.badTrain("car old 50 \u00e9;", 11, 1);
    }

    private static void numbersOfOneToThreeDigits() {
        Calls.goodTrain("car old 50 keep 3;", 1);
        Calls.goodTrain("car old 50 keep 03;", 1);
        Calls.goodTrain("car old 50 keep 003;", 1);
        Calls.badTrain("car old 50 keep 0003;", 16, 1);
        Calls.badTrain("car old 50 keep 0000000000000000000003;", 16, 1);
        Calls.badTrain("full 0700;", 5, 1);
        // 4294967996 is 700 by Java's wrap-around.
        Calls.badTrain("full 4294967996;", 5, 1);
        Calls.badTrain("full 999;", 5, 2);
        Calls.badTrain("full 1000;", 5, 1);
        // The signs just ahead of '0' and just behind '9' are no digits.
        Calls.badTrain("car old 50/;", 10, 1);
        Calls.badTrain("car old 50:;", 10, 1);
        Calls.goodTrain("car old 90 leak 09;", 1);
        Calls.badTrain("car old -50;", 8, 1);
        Calls.badTrain("car old 50,", 10, 1);
    }

    private static void lettersAndDigitsGoOn() {
        Calls.badTrain("car old50;", 4, 1);
        Calls.badTrain("car old 50out;", 8, 1);
        Calls.badTrain("carold 50;", 0, 1);
        Calls.badTrain("car old 50 keep3;", 11, 1);
        Calls.badTrain("full 3a;", 5, 1);
        Calls.badTrain("full 300a;", 5, 1);
        Calls.badTrain("full a300;", 5, 1);
        Calls.badTrain("full 300;5car old 50;", 9, 1);
        Calls.badHandle("let5;", 0, 1);
        Calls.badHandle("let 5a;", 4, 1);
        Calls.badHandle("both;let 5;draw 5x 5;", 16, 1);
    }

    private static void trainTexts() {
        Sentence.holds(HERE, "TEXT: { LINE ; }. LINE:", BoundsOfText::linesEndWithTheirMark);
        Sentence.holds(HERE, "'full' NUMBER (300 to 900; 700 without)", BoundsOfText::full300To900);
        Sentence.holds(HERE, "| 'feed' NUMBER (1 to 99; 40 without)", BoundsOfText::feed1To99);
        Sentence.holds(HERE, "| 'car' KIND NUMBER (its WEIGHT, 10 to 99)", BoundsOfText::weight10To99);
        Sentence.holds(HERE, "{ 'out' | 'keep' NUMBER (0 to 3)", BoundsOfText::outAndKeep0To3);
        Sentence.holds(HERE, "| 'leak' NUMBER (0 to 99)", BoundsOfText::leak0To99);
        Sentence.holds(HERE, "| 'hose' NUMBER (0 to 100: how OPEN the hose ahead of it is; 100 without)",
            BoundsOfText::hose0To100);
        Sentence.holds(HERE, "| 'stuck' ( 'on' | 'off' ) }.", BoundsOfText::stuckOnOrOff);
        Sentence.holds(HERE, "KIND: 'old' | 'quick' | 'slow'.", BoundsOfText::threeKinds);
    }

    private static void linesEndWithTheirMark() {
        Calls.badTrain("car old 50", 10, 1);
        Calls.badTrain("car old 50 full 300;", 11, 1);
        Calls.badTrain("full 300 car old 50;", 9, 1);
        Calls.badTrain("car old 50;;", 11, 1);
        Calls.badTrain(";car old 50;", 0, 1);
        Calls.badTrain("700;", 0, 1);
        Calls.badTrain("out;", 0, 1);
        Calls.badTrain("old;", 0, 1);
        Calls.badTrain("let 5;", 0, 1);
        // The LINES may come in any order.
        Calls.goodTrain("car old 50;feed 9;car old 50;full 300;", 4);
    }

    private static int fullOf(String line) {
        return Calls.pipe(line + "car old 50;", "").at(0, 0, 0);
    }

    private static void full300To900() {
        Calls.badTrain("full 299;car old 50;", 5, 2);
        Check.due("full 300", fullOf("full 300;"), 300);
        Check.due("full 900", fullOf("full 900;"), 900);
        Calls.badTrain("full 901;car old 50;", 5, 2);
        Calls.badTrain("full 0;car old 50;", 5, 2);
        Check.due("without", fullOf(""), 700);
        Calls.badTrain("full;car old 50;", 4, 1);
        TrainPipe p = Calls.pipe("full 300;car old 50;", "");
        Check.train(p, "car old 50;");
        Check.due("without, behind a train with it", p.at(0, 0, 0), 700);
    }

    private static int feedOf(String line) {
        return Calls.pipe(line + "car old 50 hose 0;", "dump 1;let 1;").at(2, 0, 0);
    }

    private static void feed1To99() {
        Calls.badTrain("feed 0;car old 50;", 5, 2);
        Check.due("feed 1", feedOf("feed 1;"), 1);
        Check.due("feed 99", feedOf("feed 99;"), 99);
        Calls.badTrain("feed 100;car old 50;", 5, 2);
        Check.due("without", feedOf(""), 40);
        Calls.badTrain("feed;car old 50;", 4, 1);
        TrainPipe p = Calls.pipe("feed 9;car old 50;", "dump 1;let 1;");
        Check.train(p, "car old 50 hose 0;");
        Check.due("without, behind a train with it", p.at(2, 0, 0), 40);
    }

    private static int fact(String car, int what) {
        return Calls.pipe(car, "").car(1, what);
    }

    private static void weight10To99() {
        Calls.badTrain("car old 9;", 8, 2);
        Check.due("weight 10", fact("car old 10;", 1), 10);
        Check.due("weight 99", fact("car old 99;", 1), 99);
        Calls.badTrain("car old 100;", 8, 2);
        Calls.badTrain("car old;", 7, 1);
        Calls.badTrain("car old out;", 8, 1);
        Calls.badTrain("car 50;", 4, 1);
        Calls.badTrain("car 50 old;", 4, 1);
        Calls.badTrain("car old 50 50;", 11, 1);
    }

    private static void outAndKeep0To3() {
        Check.due("out", fact("car old 50 out;", 2), 1);
        Check.due("not out", fact("car old 50;", 2), 0);
        Calls.badTrain("car old 50 out 1;", 15, 1);
        Check.due("keep 0", fact("car old 50 keep 0;", 3), 0);
        Check.due("keep 3", fact("car old 50 keep 3;", 3), 3);
        Check.due("no keep", fact("car old 50;", 3), 0);
        Calls.badTrain("car old 50 keep 4;", 16, 2);
        Calls.badTrain("car old 50 keep;", 15, 1);
        Calls.badTrain("car old 50 keep out;", 16, 1);
    }

    private static void leak0To99() {
        Check.due("leak 0", fact("car old 50 leak 0;", 4), 0);
        Check.due("leak 99", fact("car old 50 leak 99;", 4), 99);
        Check.due("no leak", fact("car old 50;", 4), 0);
        Calls.badTrain("car old 50 leak 100;", 16, 2);
        Calls.badTrain("car old 50 leak;", 15, 1);
    }

    private static void hose0To100() {
        Check.due("hose 0", fact("car old 50 hose 0;", 5), 0);
        Check.due("hose 100", fact("car old 50 hose 100;", 5), 100);
        Check.due("without", fact("car old 50;", 5), 100);
        Calls.badTrain("car old 50 hose 101;", 16, 2);
        Calls.badTrain("car old 50 hose;", 15, 1);
        // It is the hose ahead of the CAR: a shut one keeps the dump from its own CELL and from those behind.
        TrainPipe p = Calls.pipe("car old 50;car old 50 hose 0;car old 50;", "dump 1;");
        Check.due("ahead of the shut hose", p.at(9, 1, 0) < 200, true);
        Check.due("behind the shut hose", p.at(9, 2, 0), 700);
        Check.due("further behind", p.at(9, 3, 0), 700);
    }

    private static void stuckOnOrOff() {
        Check.due("stuck on", fact("car old 50 stuck on;", 6), 1);
        Check.due("stuck off", fact("car old 50 stuck off;", 6), 2);
        Check.due("not stuck", fact("car old 50;", 6), 0);
        Calls.badTrain("car old 50 stuck;", 16, 1);
        Calls.badTrain("car old 50 stuck out;", 17, 1);
        Calls.badTrain("car old 50 stuck 1;", 17, 1);
        Calls.badTrain("car old 50 on;", 11, 1);
        Calls.badTrain("car old 50 stuck on off;", 20, 1);
        // All five, in two orders.
        Calls.goodTrain("car old 50 stuck on hose 0 leak 0 keep 0 out;", 1);
        Calls.goodTrain("car old 50 out keep 3 leak 99 hose 100 stuck off;", 1);
    }

    private static void threeKinds() {
        Check.due("old", fact("car old 50;", 0), 0);
        Check.due("quick", fact("car quick 50;", 0), 1);
        Check.due("slow", fact("car slow 50;", 0), 2);
        Calls.badTrain("car fast 50;", 4, 1);
        Calls.badTrain("car ol 50;", 4, 1);
        Calls.badTrain("car slo 50;", 4, 1);
        Calls.badTrain("car;", 3, 1);
    }

    private static void faults() {
        Sentence.holds(HERE, "FAULTS, the first along the text,", BoundsOfText::theFirstAlongTheText);
        Sentence.holds(HERE, "of one TOKEN the least:", BoundsOfText::ofOneTokenTheLeast);
        Sentence.holds(HERE, "1 no TOKEN, or one that can't come (at it;", BoundsOfText::noTokenOrOneThatCannotCome);
        Sentence.holds(HERE, "the end: how many bytes there are;", BoundsOfText::theEndIsHowManyBytes);
        Sentence.holds(HERE, "700, if there are more and no FAULT is ahead:",
            BoundsOfText::sevenHundredIfThereAreMore);
        Sentence.holds(HERE, "TOKENS that begin ahead of it are read whole;", BoundsOfText::readWholeAcrossTheLimit);
        Sentence.holds(HERE, "also at the end without a CAR);", BoundsOfText::atTheEndWithoutACar);
        Sentence.holds(HERE, "2 a NUMBER that is not as told (at it);", BoundsOfText::numberNotAsTold);
        Sentence.holds(HERE, "3 full, feed, or out, keep, leak, hose, stuck within one LINE told twice (at it);",
            BoundsOfText::toldTwice);
        Sentence.holds(HERE, "4 a 17th CAR (at its 'car').", BoundsOfText::aSeventeenthCar);
    }

    private static void theFirstAlongTheText() {
        Calls.badTrain("car old 5 keep 9 !;", 8, 2);
        Calls.badTrain("car old 50 keep 9 !;", 16, 2);
        Calls.badTrain("car old 50 ! keep 9;", 11, 1);
        Calls.badTrain("full 300;full 300;car x;", 9, 3);
        Calls.badTrain(Calls.cars(16) + "car x;", 176, 4);
        Calls.badTrain(Calls.cars(15) + "car x;" + Calls.cars(2), 169, 1);
        Calls.badHandle("let 0;draw 100 !;", 4, 2);
        Calls.badHandle("dump 1;".repeat(19) + "dump 0;dump 1;", 138, 2);
    }

    private static void ofOneTokenTheLeast() {
        // Told twice and where it can't come: 1, not 3.
        Calls.badTrain("full 300 full 300;car old 50;", 9, 1);
        Calls.badTrain("full 300;full full 300;", 9, 3);
        Calls.badTrain("feed 9 feed 9;car old 50;", 7, 1);
        Calls.badTrain("car old 50 out keep out;", 20, 1);
        Calls.badTrain("car old 50 stuck stuck on;", 17, 1);
        // A 17th 'car' where none can come: 1, not 4.
        Calls.badTrain(Calls.cars(15) + "car old 50 car old 50;", 176, 1);
        Calls.badTrain(Calls.cars(16) + "full car old 50;", 181, 1);
        // A NUMBER beyond every bound where none can come: 1, not 2.
        Calls.badTrain("car 999 old;", 4, 1);
        Calls.badTrain("full 300 999;", 9, 1);
        // What would be a 21st STEP but can be none: 1, not 4.
        Calls.badHandle("dump 1;".repeat(20) + "both;", 140, 1);
        Calls.badHandle("dump 1;".repeat(20) + "5;", 140, 1);
        Calls.badHandle("dump 1;".repeat(20) + ";", 140, 1);
        Calls.badHandle("dump 1;".repeat(19) + "dump 1 dump 1;", 140, 1);
    }

    private static void noTokenOrOneThatCannotCome() {
        Calls.badTrain("!", 0, 1);
        Calls.badTrain("car !", 4, 1);
        Calls.badTrain("car old !", 8, 1);
        Calls.badTrain("car old 50 !", 11, 1);
        Calls.badTrain("car old 50;!", 11, 1);
        Calls.badTrain("car old 50 keep !", 16, 1);
        Calls.badTrain("car old 50 keep 3!", 17, 1);
        Calls.badTrain("car old 50 stuck !", 17, 1);
        Calls.badTrain("car old 50 stuck on!", 19, 1);
        Calls.badTrain("foo", 0, 1);
        Calls.badTrain("car foo", 4, 1);
        Calls.badTrain("car old foo", 8, 1);
        Calls.badTrain("car old 50 foo", 11, 1);
        Calls.badTrain("car old 50;foo", 11, 1);
        Calls.badTrain("full foo", 5, 1);
        Calls.badTrain("full 300 foo", 9, 1);
        oneLetterIsAnother("full 300;feed 9;car old 50 out keep 1 leak 1 hose 1 stuck on;car quick 50 stuck off;"
            + "car slow 50;");
    }

    /** Each WORD of a good text with one of its letters changed is another WORD, which can't come. */
    private static void oneLetterIsAnother(String text) {
        int begun = 0;
        for (int i = 0; i < text.length(); i++) {
            if (Character.isLetter(text.charAt(i))) {
                Calls.badTrain(text.substring(0, i) + "z" + text.substring(i + 1), begun, 1);
            } else {
                begun = i + 1;
            }
        }
    }

    private static void theEndIsHowManyBytes() {
        String[] cut = {"car", "car old", "car old 50", "car old 50 out", "car old 50 keep", "car old 50 keep 3",
            "car old 50 stuck", "car old 50 stuck on", "full", "full 300", "car old 50;feed", "car old 50;feed 9"};
        for (String text : cut) {
            Calls.badTrain(text, text.length(), 1);
            Calls.badTrain(text + " \n ", text.length() + 3, 1);
            Calls.badTrain(text + Calls.blanks(700 - text.length()), 700, 1);
        }
        for (String text : new String[] {"both", "let", "let 5", "draw", "draw 5", "draw 5 5", "both;dump"}) {
            Calls.badHandle(text, text.length(), 1);
            Calls.badHandle(text + "\n", text.length() + 1, 1);
        }
    }

    private static void sevenHundredIfThereAreMore() {
        Calls.badTrain("car old 50;" + Calls.blanks(690), 700, 1);
        Calls.badTrain("car old 50;" + Calls.blanks(729), 700, 1);
        Calls.badTrain("car old 50" + Calls.blanks(700), 700, 1);
        Calls.badTrain(Calls.blanks(740), 700, 1);
        // A FAULT ahead of the 700th byte comes first, one behind it does not count.
        Calls.badTrain("car old 50;" + Calls.blanks(688) + "!" + Calls.blanks(20), 699, 1);
        Calls.badTrain("car old 50;" + Calls.blanks(689) + "!" + Calls.blanks(20), 700, 1);
        Calls.badTrain("car old 5;" + Calls.blanks(730), 8, 2);
        Calls.badTrain("full 300;full 300;" + Calls.blanks(700), 9, 3);
        Calls.badTrain("car old 50 leak" + Calls.blanks(683) + "100;" + Calls.blanks(9), 698, 2);
        Calls.badTrain(Calls.cars(16) + Calls.blanks(523) + "car", 699, 4);
        Calls.badTrain(Calls.cars(16) + Calls.blanks(524) + "car", 700, 1);
        // The same text without what is too much is a TRAIN.
        Calls.goodTrain(Calls.cars(16) + Calls.blanks(524), 16);
    }

    private static void readWholeAcrossTheLimit() {
        // 'keep' begins at 699 and is whole, what follows is told at 700.
        Calls.badTrain("car old 50" + Calls.blanks(689) + "keep 9;", 700, 1);
        Calls.badTrain("car old 50" + Calls.blanks(689) + "kee 9;", 699, 1);
        Calls.badTrain("car old 50" + Calls.blanks(689) + "keepkeep 9;", 699, 1);
        Calls.badTrain("car old 50" + Calls.blanks(690) + "keepkeep 9;", 700, 1);
        // 123 begins at 699: as 1 it would be a KEEP.
        Calls.badTrain("car old 50 keep" + Calls.blanks(684) + "1;", 700, 1);
        Calls.badTrain("car old 50 keep" + Calls.blanks(684) + "123;", 699, 2);
        Calls.badTrain("car old 50 keep" + Calls.blanks(684) + "1234;", 699, 1);
        Calls.badTrain("car old 50 keep" + Calls.blanks(684) + "1a;", 699, 1);
        Calls.badTrain("car old 50 keep" + Calls.blanks(685) + "123;", 700, 1);
        Calls.badTrain("full 700;" + Calls.blanks(690) + "full 300;", 699, 3);
        Calls.badTrain("full 700;" + Calls.blanks(691) + "full 300;", 700, 1);
        Calls.badTrain("car old 50" + Calls.blanks(689) + ";" + Calls.blanks(40), 700, 1);
        Calls.badHandle("dump" + Calls.blanks(295) + "99;", 300, 1);
        Calls.badHandle("dump" + Calls.blanks(295) + "100;", 299, 2);
        Calls.badHandle("dump" + Calls.blanks(296) + "100;", 300, 1);
    }

    private static void atTheEndWithoutACar() {
        Calls.badTrain("", 0, 1);
        Calls.badTrain(" ", 1, 1);
        Calls.badTrain("full 300;", 9, 1);
        Calls.badTrain("full 300;feed 9;\n", 17, 1);
        Calls.badTrain(Calls.blanks(700), 700, 1);
        Calls.badTrain(Calls.blanks(701), 700, 1);
    }

    private static void numberNotAsTold() {
        Calls.badTrain("full 299;", 5, 2);
        Calls.badTrain("full  901;", 6, 2);
        Calls.badTrain("feed 0;", 5, 2);
        Calls.badTrain("feed\n100;", 5, 2);
        Calls.badTrain("car old 09;", 8, 2);
        Calls.badTrain("car old 100;", 8, 2);
        Calls.badTrain("car old 50 keep 4;", 16, 2);
        Calls.badTrain("car old 50 leak 100;", 16, 2);
        Calls.badTrain("car old 50 hose 101;", 16, 2);
        Calls.badTrain("car old 50 hose 101", 16, 2);
        Calls.badHandle("let 0;", 4, 2);
        Calls.badHandle("let 000;", 4, 2);
        Calls.badHandle("draw 100", 5, 2);
    }

    private static void toldTwice() {
        Calls.badTrain("full 300;full 300;car old 50;", 9, 3);
        Calls.badTrain("full 300;full 1;", 9, 3);
        Calls.badTrain("full 300;full", 9, 3);
        Calls.badTrain("feed 9;car old 50;feed 9;", 18, 3);
        Calls.badTrain("car old 50 out out;", 15, 3);
        Calls.badTrain("car old 50 keep 0 keep 0;", 18, 3);
        Calls.badTrain("car old 50 leak 0 leak 0;", 18, 3);
        Calls.badTrain("car old 50 hose 100 hose 100;", 20, 3);
        Calls.badTrain("car old 50 stuck on stuck on;", 20, 3);
        Calls.badTrain("car old 50 stuck off keep 1 leak 1 hose 1 out stuck on;", 46, 3);
        // Within one LINE: another LINE may tell them again, and full and feed are two things.
        Calls.goodTrain("car old 50 out keep 1 leak 1 hose 1 stuck on;".repeat(2), 2);
        Calls.goodTrain("full 300;feed 9;car old 50;", 3);
    }

    private static void aSeventeenthCar() {
        Calls.goodTrain(Calls.cars(16), 16);
        Calls.badTrain(Calls.cars(17), 176, 4);
        Calls.badTrain(Calls.cars(16) + " \ncar old 50;", 178, 4);
        Calls.badTrain(Calls.cars(16) + "car", 176, 4);
        Calls.badTrain(Calls.cars(16) + "car old 5;", 176, 4);
        Calls.badTrain(Calls.cars(16) + "cars", 176, 1);
        Calls.goodTrain(Calls.cars(16) + "full 300;feed 9;", 18);
        Calls.badTrain("full 300;" + Calls.cars(16) + "feed 9;" + Calls.cars(1), 192, 4);
    }

    private static void handles() {
        Sentence.holds(HERE, "A HANDLE is a text of at most 300 bytes, TOKENS likewise:",
            BoundsOfText::handleOfAtMost300Bytes);
        Sentence.holds(HERE, "[ 'both' ; ] { STEP ; },", BoundsOfText::bothOnceAndFirst);
        Sentence.holds(HERE, "20 STEPS at most (a 21st is 4 at its first TOKEN):", BoundsOfText::twentySteps);
        Sentence.holds(HERE, "'let' T | 'hold' T | 'draw' D T | 'dump' T (T 1 to 99 TICKS, D 1 to 99).",
            BoundsOfText::ticksAndAmounts1To99);
        Sentence.holds(HERE, "Behind its last STEP that one goes on;", BoundsOfText::theLastStepGoesOn);
        Sentence.holds(HERE, "an empty one holds.", BoundsOfText::anEmptyHandleHolds);
    }

    private static void handleOfAtMost300Bytes() {
        Calls.goodHandle("let 5;" + Calls.blanks(293), 1, 5);
        Calls.goodHandle("let 5;" + Calls.blanks(294), 1, 5);
        Calls.badHandle("let 5;" + Calls.blanks(295), 300, 1);
        Calls.goodHandle(Calls.blanks(300), 0, 0);
        Calls.badHandle(Calls.blanks(301), 300, 1);
        Calls.badHandle("both;" + Calls.blanks(735), 300, 1);
        Calls.badHandle("let 5;" + Calls.blanks(293) + "!" + Calls.blanks(9), 299, 1);
        Calls.badHandle("let 5;" + Calls.blanks(294) + "!" + Calls.blanks(9), 300, 1);
        Calls.badHandle("dump 1;".repeat(20) + Calls.blanks(159) + "dump 1;", 299, 4);
        Calls.badHandle("dump 1;".repeat(20) + Calls.blanks(160) + "dump 1;", 300, 1);
        // A TRAIN of 301 bytes is none too long.
        Calls.goodTrain("car old 50;" + Calls.blanks(290), 1);
    }

    private static void bothOnceAndFirst() {
        Calls.goodHandle("both;", 0, 0);
        Calls.goodHandle("both;let 5;", 1, 5);
        Calls.badHandle("both", 4, 1);
        Calls.badHandle("both let 5;", 5, 1);
        Calls.badHandle("both;both;", 5, 1);
        Calls.badHandle("let 5;both;", 6, 1);
        Calls.badHandle("both;;", 5, 1);
        Calls.badHandle(";", 0, 1);
        Calls.badHandle("let 5;;", 6, 1);
        Calls.badHandle("let 5", 5, 1);
        Calls.badHandle("let 5 hold 5;", 6, 1);
        Calls.badHandle("car old 50;", 0, 1);
    }

    private static void twentySteps() {
        Calls.goodHandle("dump 1;".repeat(19), 19, 19);
        Calls.goodHandle("dump 1;".repeat(20), 20, 20);
        Calls.badHandle("dump 1;".repeat(21), 140, 4);
        Calls.badHandle("dump 1;".repeat(20) + "\n let", 142, 4);
        Calls.badHandle("dump 1;".repeat(20) + "draw 0 0;", 140, 4);
        Calls.badHandle("dump 1;".repeat(20) + "hold", 140, 4);
        // 'both' is no STEP.
        Calls.goodHandle("both;" + "dump 1;".repeat(20), 20, 20);
        Calls.badHandle("both;" + "dump 1;".repeat(21), 145, 4);
    }

    private static void ticksAndAmounts1To99() {
        for (String act : new String[] {"let ", "hold", "dump"}) {
            Calls.badHandle(act + " 0;", 5, 2);
            Calls.goodHandle(act + " 1;", 1, 1);
            Calls.goodHandle(act + " 99;", 1, 99);
            Calls.badHandle(act + " 100;", 5, 2);
            Calls.badHandle(act + " ;", 5, 1);
            Calls.badHandle(act + " 5 5;", 7, 1);
        }
        Calls.badHandle("draw 0 5;", 5, 2);
        Calls.badHandle("draw 100 5;", 5, 2);
        Calls.badHandle("draw 5 0;", 7, 2);
        Calls.badHandle("draw 5 100;", 7, 2);
        Calls.goodHandle("draw 1 99;", 1, 99);
        Calls.goodHandle("draw 99 1;", 1, 1);
        Calls.badHandle("draw 5;", 6, 1);
        Calls.badHandle("draw;", 4, 1);
        Calls.badHandle("draw 5 5 5;", 9, 1);
    }

    private static void theLastStepGoesOn() {
        TrainPipe p = Calls.pipe("full 900;car old 50 hose 0;", "hold 2;draw 1 1;");
        Check.due("tick 2", p.at(2, 0, 0), 900);
        Check.due("its own tick", p.at(3, 0, 0), 899);
        Check.due("one behind it", p.at(4, 0, 0), 898);
        Check.due("tick 600", p.at(600, 0, 0), 302);
        p = Calls.pipe("full 900;car old 50 hose 0;", "draw 1 99;hold 1;");
        Check.due("a step ahead of it does not go on", p.at(600, 0, 0), 801);
        p = Calls.pipe("full 900;car old 50 hose 0;", "hold 99;".repeat(6) + "hold 5;draw 7 1;");
        Check.due("tick 599", p.at(599, 0, 0), 900);
        Check.due("tick 600 is its first", p.at(600, 0, 0), 893);
    }

    private static void anEmptyHandleHolds() {
        TrainPipe p = Calls.pipe("car old 50;", "dump 1;");
        Check.due("a dump", p.at(1, 0, 0), 175);
        Check.due("an empty handle", p.handle(), 0);
        Check.due("no fault", p.fault(), 0);
        Check.due("holds the first cell", p.at(600, 0, 0), 700);
        Check.due("holds the last cell", p.at(600, 1, 0), 700);
        Check.handle(p, "both;");
        Check.due("with both alone, too", p.at(600, 1, 0), 700);
    }
}
