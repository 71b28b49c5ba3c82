import java.util.Random;

/** Random runs of calls on TrainPipe and on the plain Model; the seeds are fixed, so every run is the same. */
public final class ModelTest {
    private static final int RUNS = 400;

    public static void main(String[] args) {
        int runs = args.length > 0 ? Integer.parseInt(args[0]) : RUNS;
        long calls = 0;
        for (int seed = 0; seed < runs; seed++) {
            Random random = new Random(seed);
            Pair pair = new Pair("seed " + seed);
            switch (seed % 4) {
                case 0 -> texts(pair, random);
                case 1 -> pressures(pair, random);
                case 2 -> runs(pair, random);
                default -> guessesAndDays(pair, random);
            }
            calls += pair.calls();
        }
        System.out.println("ModelTest: " + runs + " runs, " + calls + " calls alike");
    }

    // ---- texts

    private static String pick(Random r, String... of) {
        return of[r.nextInt(of.length)];
    }

    private static String blank(Random r) {
        return pick(r, " ", " ", " ", "\n", "  ", " \n ");
    }

    private static String carText(Random r, boolean wild) {
        StringBuilder s = new StringBuilder();
        s.append("car").append(blank(r)).append(pick(r, "old", "quick", "slow")).append(blank(r));
        s.append(10 + r.nextInt(90));
        if (r.nextInt(6) == 0) {
            s.append(blank(r)).append("out");
        }
        if (r.nextInt(4) == 0) {
            s.append(blank(r)).append("keep ").append(r.nextInt(4));
        }
        if (r.nextInt(3) == 0) {
            s.append(blank(r)).append("leak ").append(wild ? r.nextInt(100) : r.nextInt(12));
        }
        if (r.nextInt(3) == 0) {
            s.append(blank(r)).append("hose ").append(wild ? r.nextInt(101) : 40 + r.nextInt(61));
        }
        if (r.nextInt(6) == 0) {
            s.append(blank(r)).append("stuck ").append(pick(r, "on", "off"));
        }
        return s.append(";").toString();
    }

    private static String trainText(Random r, int cars) {
        StringBuilder s = new StringBuilder();
        boolean wild = r.nextInt(3) == 0;
        if (r.nextInt(2) == 0) {
            s.append("full ").append(300 + r.nextInt(601)).append(";");
        }
        int feedAt = r.nextInt(2 * cars);
        for (int c = 0; c < cars; c++) {
            if (c == feedAt) {
                s.append("feed ").append(1 + r.nextInt(99)).append(" ;");
            }
            s.append(carText(r, wild));
        }
        return s.toString();
    }

    /** Sets some brakes and lets all go again, which handles at random hardly ever do. */
    private static String easingText(Random r) {
        return pick(r, "", "both;") + pick(r, "dump 1;", "draw 40 2;", "draw 9 20;hold 5;", "dump 3;hold 2;")
            + "let 99;let " + (1 + r.nextInt(99)) + ";" + pick(r, "", "dump 1;", "hold 9;draw 30 2;let 9;");
    }

    private static String handleText(Random r, int steps) {
        StringBuilder s = new StringBuilder(r.nextInt(4) == 0 ? "both;" : "");
        for (int i = 0; i < steps; i++) {
            String act = pick(r, "let", "hold", "draw", "dump");
            s.append(act).append(blank(r));
            if (act.equals("draw")) {
                s.append(1 + r.nextInt(40)).append(blank(r));
            }
            s.append(1 + r.nextInt(r.nextInt(3) == 0 ? 99 : 12)).append(";");
        }
        return s.toString();
    }

    private static String spoil(Random r, String text) {
        StringBuilder s = new StringBuilder(text);
        int times = r.nextInt(3);
        for (int i = 0; i < times && s.length() > 0; i++) {
            int place = r.nextInt(s.length());
            switch (r.nextInt(6)) {
                case 0 -> s.deleteCharAt(place);
                case 1 -> s.setCharAt(place, (char) r.nextInt(256));
                case 2 -> s.insert(place, pick(r, ";", " ", "out", " keep 3 ", "7", "car", "a", "full 400;", "both;"));
                case 3 -> s.setLength(place);
                case 4 -> s.setCharAt(place, (char) ('0' + r.nextInt(10)));
                default -> s.insert(place, s.substring(place, Math.min(s.length(), place + r.nextInt(30))));
            }
        }
        return s.toString();
    }

    private static String stretch(Random r, String text, int length) {
        StringBuilder s = new StringBuilder(text);
        while (s.length() < length) {
            int place = s.indexOf(";", r.nextInt(s.length()));
            s.insert(place + 1, " ");
        }
        return s.toString();
    }

    private static String shortened(String s) {
        return s.length() > 740 ? s.substring(0, 740) : s;
    }

    private static void texts(Pair pair, Random r) {
        for (int i = 0; i < 10; i++) {
            String text = spoil(r, trainText(r, 1 + r.nextInt(18)));
            if (r.nextInt(3) == 0 && text.contains(";")) {
                text = stretch(r, text, 695 + r.nextInt(10));
            }
            pair.put(shortened(text));
            pair.train();
            pair.fault();
            pair.count(0);
            pair.car(1 + r.nextInt(17), r.nextInt(7));
            text = spoil(r, handleText(r, r.nextInt(23)));
            if (r.nextInt(3) == 0 && text.contains(";")) {
                text = stretch(r, text, 295 + r.nextInt(10));
            }
            pair.put(shortened(text));
            pair.handle();
            pair.fault();
            pair.count(1);
            pair.count(3);
            pair.end(r.nextInt(12) - 3);
        }
        for (int i = 0; i < 40; i++) {
            pair.feed(r.nextInt(), r.nextInt(), r.nextInt(), r.nextInt(), r.nextInt());
        }
        pair.end(741);
        pair.end(739 - r.nextInt(30));
        pair.feed(1, 2, 3, 4, 5);
        pair.train();
        pair.fault();
        pair.count(4);
    }

    // ---- ticks

    private static void tellTrain(Pair pair, Random r, int cars) {
        pair.put(shortened(trainText(r, cars)));
        pair.train();
        pair.put(r.nextInt(4) == 0 ? easingText(r) : handleText(r, r.nextInt(7)));
        pair.handle();
    }

    private static void pressures(Pair pair, Random r) {
        for (int i = 0; i < 4; i++) {
            int cars = 1 + r.nextInt(16);
            tellTrain(pair, r, cars);
            for (int k = 0; k < 40; k++) {
                pair.at(r.nextInt(r.nextBoolean() ? 60 : 603) - 1, r.nextInt(cars + 2), r.nextInt(4));
            }
            for (int c = 0; c <= cars + 1; c++) {
                pair.hears(c);
            }
            pair.easy();
        }
    }

    private static void runs(Pair pair, Random r) {
        for (int i = 0; i < 3; i++) {
            int cars = 1 + r.nextInt(r.nextInt(3) == 0 ? 11 : 6);
            tellTrain(pair, r, cars);
            for (int k = 0; k < 3; k++) {
                int grade = r.nextInt(k == 0 ? 81 : 15) - (k == 0 ? 40 : 5);
                int speed = r.nextInt(k == 0 ? 3001 : 900);
                int snow = r.nextInt(91);
                int span = pair.run(grade, speed, snow);
                int about = span < 0 ? r.nextInt(400000) : span * (5 + r.nextInt(16)) / 10;
                pair.ran(0);
                pair.ran(1);
                pair.ran(2);
                pair.help(grade, speed, snow, about);
                pair.help(grade, speed, snow, Integer.MAX_VALUE);
                for (int p = 0; p < 4; p++) {
                    pair.parted(r.nextInt(cars + 1), r.nextInt(r.nextBoolean() ? 40 : 602), grade, speed, snow);
                }
                pair.order(grade, speed, snow, k % 2);
                for (int p = 0; p < 7; p++) {
                    pair.ordered(p);
                }
                pair.order(grade, speed, snow, 1 - k % 2);
                pair.ordered(0);
                pair.ordered(cars - 1);
                if (cars <= 7 || k == 0) {
                    pair.cut(grade, speed, snow, about);
                }
                pair.cut(Math.min(grade, 0), speed / 2, snow / 2, about);
            }
        }
    }

    // ---- gauges and days

    private static void guessesAndDays(Pair pair, Random r) {
        for (int i = 0; i < 3; i++) {
            int cars = 1 + r.nextInt(r.nextInt(3) == 0 ? 16 : 6);
            tellTrain(pair, r, cars);
            for (int k = 0; k < 4; k++) {
                gauges(pair, r, cars);
                for (int p = 0; p < 6; p++) {
                    pair.fitAt(r.nextInt(7 * cars + 3) - 1);
                }
                pair.walks(1 + r.nextInt(r.nextBoolean() ? 60 : 400));
                pair.walked(0);
                pair.walked(1);
            }
            if (i == 1) {
                pair.put(handleText(r, 3));
                pair.handle();
                pair.walks(r.nextInt(402));
                pair.walked(0);
            }
        }
        days(pair, r);
    }

    private static void gauges(Pair pair, Random r, int cars) {
        int guess = r.nextInt(4) == 0 ? 0 : 10 * (1 + r.nextInt(cars)) + r.nextInt(7);
        int size = 1 + r.nextInt(r.nextInt(8) == 0 ? 9 : 3);
        int last = 0;
        int[] bytes = new int[6 * size];
        for (int g = 0; g < size; g++) {
            int tick = 1 + r.nextInt(r.nextInt(3) == 0 ? 400 : 60);
            last = Math.max(last, tick);
            System.arraycopy(pair.model.gaugeOf(guess, tick), 0, bytes, 6 * g, 6);
        }
        pair.put(bytes);
        int hot = r.nextInt(3) == 0 ? pair.model.hotOf(guess, last) : r.nextInt(6) == 0 ? r.nextInt(2 << cars) : -1;
        pair.fits(r.nextInt(4) == 0 ? r.nextInt(101) : r.nextInt(4), hot);
    }

    private static int[] wagons(Random r, int most) {
        int size = 1 + r.nextInt(r.nextInt(9) == 0 ? 17 : 4);
        int[] row = new int[size];
        for (int i = 0; i < size; i++) {
            boolean again = true;
            while (again) {
                row[i] = r.nextInt(most);
                again = false;
                for (int k = 0; k < i && r.nextInt(50) > 0; k++) {
                    again |= row[k] == row[i];
                }
            }
        }
        return row;
    }

    private static void days(Pair pair, Random r) {
        int most = r.nextInt(3) == 0 ? 41 : 20;
        int bad = r.nextInt(most);
        int begin = r.nextInt(8);
        boolean mended = false;
        for (int d = 0; d < 10 + r.nextInt(34); d++) {
            int[] row = wagons(r, most);
            boolean among = false;
            for (int w : row) {
                among |= w == bad;
            }
            pair.put(row);
            int day = pair.day(among && d >= begin && !mended || r.nextInt(25) == 0);
            if (r.nextInt(3) == 0) {
                int wagon = r.nextInt(4) == 0 ? bad : r.nextInt(most + 1) - r.nextInt(2);
                mended |= pair.mended(wagon) == 1 && wagon == bad && d >= begin;
            }
            pair.suspects(r.nextInt(3) == 0 ? r.nextInt(43) - 1 : day);
            pair.suspect(0);
            pair.suspect(r.nextInt(5));
            pair.put(wagons(r, most));
            pair.next();
        }
        pair.count(2);
    }
}
