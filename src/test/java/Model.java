import java.util.ArrayList;
import java.util.List;
import java.util.NoSuchElementException;
import java.util.TreeSet;
import java.util.regex.Matcher;
import java.util.regex.Pattern;

/**
 * The document once more, in the plainest form there is: no RUN is cut short, no TICK left out, every
 * set and every order tried. ModelTest holds TrainPipe against it.
 */
final class Model {
    record Car(int kind, int weight, boolean out, int keep, int leak, int hose, int stuck) {
        Car cutOut() {
            return new Car(kind, weight, true, keep, leak, hose, stuck);
        }

        Car guessed(int what) {
            int newLeak = what == 0 ? 10 : what == 1 ? 20 : what == 2 ? 40 : leak;
            int newHose = what == 3 ? 10 : what == 4 ? 30 : hose;
            int newStuck = what == 5 ? 1 : what == 6 ? 2 : stuck;
            return new Car(kind, weight, out, keep, newLeak, newHose, newStuck);
        }
    }

    record Train(int full, int feed, List<Car> cars) {
        Train guessed(int guess) {
            List<Car> changed = new ArrayList<>(cars);
            if (guess > 0) {
                int place = guess / 10 - 1;
                changed.set(place, cars.get(place).guessed(guess % 10));
            }
            return new Train(full, feed, changed);
        }
    }

    record Step(String act, int amount) { }

    record Token(String text, int place) { }

    static final class Fault extends Exception {
        private static final long serialVersionUID = 1;
        final int kind;
        final int place;

        Fault(int kind, int place) {
            this.kind = kind;
            this.place = place;
        }
    }

    /** The state of a pipe; ticked by a function of the TICK's number, so that HELP needs no own code. */
    static final class Pipe {
        final Train train;
        final int[] p;
        final int[] tank;
        final int[] cyl;

        Pipe(Train train) {
            this.train = train;
            int n = train.cars.size();
            p = new int[n + 1];
            tank = new int[n + 1];
            cyl = new int[n + 1];
            for (int i = 0; i <= n; i++) {
                p[i] = train.full;
                tank[i] = train.full;
            }
        }

        void tick(Step step, boolean both, int partedBehind) {
            int n = train.cars.size();
            turn(step, 0);
            if (both) {
                turn(step, n);
            }
            int[] flow = new int[n + 2];
            for (int c = 1; c <= n; c++) {
                flow[c] = (p[c - 1] - p[c]) * train.cars.get(c - 1).hose() / 400;
                if (partedBehind == c - 1 && partedBehind > 0) {
                    flow[c] = 0;
                }
            }
            for (int c = 0; c <= n; c++) {
                p[c] = p[c] + flow[c] - flow[c + 1];
            }
            if (partedBehind > 0) {
                p[partedBehind] = 0;
                p[partedBehind + 1] = 0;
            }
            for (int c = 1; c <= n; c++) {
                p[c] -= p[c] * train.cars.get(c - 1).leak() / 1000;
            }
            for (int c = 1; c <= n; c++) {
                if (!train.cars.get(c - 1).out()) {
                    valve(train.cars.get(c - 1), c);
                }
            }
        }

        private void turn(Step step, int cell) {
            if (step.act().equals("let")) {
                if (p[cell] < train.full) {
                    p[cell] += train.feed;
                    if (p[cell] > train.full) {
                        p[cell] = train.full;
                    }
                }
            } else if (step.act().equals("draw")) {
                p[cell] -= step.amount();
            } else if (step.act().equals("dump")) {
                p[cell] = 0;
            }
            if (p[cell] < 0) {
                p[cell] = 0;
            }
        }

        private void valve(Car car, int c) {
            int sense = new int[] {20, 10, 30}[car.kind()];
            int rate = new int[] {20, 30, 12}[car.kind()];
            int ease = new int[] {30, 40, 12}[car.kind()];
            int d = p[c] - tank[c];
            if (d < -sense) {
                if (car.stuck() == 2) {
                    return;
                }
                int m = rate < tank[c] - p[c] ? rate : tank[c] - p[c];
                tank[c] -= m;
                cyl[c] += 2 * m;
                if (cyl[c] > 500) {
                    cyl[c] = 500;
                }
                if (car.kind() == 1) {
                    p[c] = p[c] < 8 ? 0 : p[c] - 8;
                }
            } else if (d > sense) {
                int floor = 100 * car.keep();
                if (car.stuck() != 1 && cyl[c] >= floor) {
                    cyl[c] = cyl[c] - ease < floor ? floor : cyl[c] - ease;
                }
                int m = d / 2 > 10 ? 10 : d / 2;
                p[c] -= m;
                tank[c] += m;
            }
        }

        int hot() {
            int bits = 0;
            for (int c = 1; c <= train.cars.size(); c++) {
                if (cyl[c] >= 100) {
                    bits |= 1 << (c - 1);
                }
            }
            return bits;
        }
    }

    private static final int[] NO_RUN = {-1, -1, -1, -1};

    private List<Integer> tape = new ArrayList<>();
    private Train train = new Train(700, 40, List.of(new Car(0, 50, false, 0, 0, 100, 0)));
    /** A STEP for each TICK told; the last one goes on. */
    private List<Step> ticks = new ArrayList<>();
    private int steps = 0;
    private boolean both = false;
    private int fault = 0;
    private int[] ran = NO_RUN;
    private List<Integer> ordered = new ArrayList<>();
    private List<Integer> fitting = null;
    private int fittedCars = 0;
    private int[] walked = null;
    private final List<TreeSet<Integer>> rows = new ArrayList<>();
    private final List<TreeSet<Integer>> mends = new ArrayList<>();
    private final List<Boolean> hots = new ArrayList<>();
    private List<Integer> suspects = new ArrayList<>();

    int feed(int a, int b, int c, int d, int e) {
        if (tape.size() > 720) {
            return -1;
        }
        for (int x : new int[] {a, b, c, d, e}) {
            tape.add(x >>> 24);
            tape.add(x >>> 16 & 255);
            tape.add(x >>> 8 & 255);
            tape.add(x & 255);
        }
        return tape.size();
    }

    boolean end(int n) {
        if (n < 0 || n > tape.size()) {
            return false;
        }
        tape = new ArrayList<>(tape.subList(0, n));
        return true;
    }

    private List<Integer> takeTape() {
        List<Integer> taken = tape;
        tape = new ArrayList<>();
        return taken;
    }

    // ---- texts

    private static List<Token> tokens(List<Integer> bytes, int most) {
        StringBuilder text = new StringBuilder();
        for (int b : bytes) {
            text.append((char) b);
        }
        List<Token> found = new ArrayList<>();
        Matcher m = Pattern.compile("[a-z0-9]+|[^ \n]", Pattern.DOTALL).matcher(text);
        while (m.find()) {
            if (m.start() < most) {
                found.add(new Token(m.group(), m.start()));
            }
        }
        found.add(new Token("", bytes.size() > most ? most : bytes.size()));
        return found;
    }

    private static boolean isWordOf(Token t, String words) {
        return !t.text().isEmpty() && (" " + words + " ").contains(" " + t.text() + " ");
    }

    private static int number(Token t, int low, int high) throws Fault {
        if (!t.text().matches("[0-9]{1,3}")) {
            throw new Fault(1, t.place());
        }
        int value = Integer.parseInt(t.text());
        if (value < low || value > high) {
            throw new Fault(2, t.place());
        }
        return value;
    }

    private static void need(boolean good, int kind, Token t) throws Fault {
        if (!good) {
            throw new Fault(kind, t.place());
        }
    }

    int train() {
        List<Integer> bytes = takeTape();
        try {
            List<Token> t = tokens(bytes, 700);
            int full = -1;
            int feed = -1;
            List<Car> cars = new ArrayList<>();
            int lines = 0;
            int i = 0;
            while (!t.get(i).text().isEmpty()) {
                Token head = t.get(i++);
                need(isWordOf(head, "full feed car"), 1, head);
                if (head.text().equals("full")) {
                    need(full < 0, 3, head);
                    full = number(t.get(i++), 300, 900);
                } else if (head.text().equals("feed")) {
                    need(feed < 0, 3, head);
                    feed = number(t.get(i++), 1, 99);
                } else {
                    need(cars.size() < 16, 4, head);
                    need(isWordOf(t.get(i), "old quick slow"), 1, t.get(i));
                    String kind = t.get(i++).text();
                    int weight = number(t.get(i++), 10, 99);
                    int[] facts = {0, 0, 0, 100, 0};
                    TreeSet<String> told = new TreeSet<>();
                    while (isWordOf(t.get(i), "out keep leak hose stuck")) {
                        Token word = t.get(i++);
                        need(told.add(word.text()), 3, word);
                        switch (word.text()) {
                            case "out" -> facts[0] = 1;
                            case "keep" -> facts[1] = number(t.get(i++), 0, 3);
                            case "leak" -> facts[2] = number(t.get(i++), 0, 99);
                            case "hose" -> facts[3] = number(t.get(i++), 0, 100);
                            default -> {
                                need(isWordOf(t.get(i), "on off"), 1, t.get(i));
                                facts[4] = t.get(i++).text().equals("on") ? 1 : 2;
                            }
                        }
                    }
                    int k = kind.equals("old") ? 0 : kind.equals("quick") ? 1 : 2;
                    cars.add(new Car(k, weight, facts[0] == 1, facts[1], facts[2], facts[3], facts[4]));
                }
                need(t.get(i).text().equals(";"), 1, t.get(i));
                i++;
                lines++;
            }
            need(!cars.isEmpty() && bytes.size() <= 700, 1, t.get(i));
            train = new Train(full < 0 ? 700 : full, feed < 0 ? 40 : feed, cars);
            fault = 0;
            return lines;
        } catch (Fault f) {
            fault = f.kind;
            return -1 - f.place;
        }
    }

    int handle() {
        List<Integer> bytes = takeTape();
        try {
            List<Token> t = tokens(bytes, 300);
            List<Step> told = new ArrayList<>();
            int count = 0;
            int i = 0;
            boolean withBoth = t.get(0).text().equals("both");
            if (withBoth) {
                need(t.get(1).text().equals(";"), 1, t.get(1));
                i = 2;
            }
            while (!t.get(i).text().isEmpty()) {
                Token head = t.get(i++);
                need(isWordOf(head, "let hold draw dump"), 1, head);
                need(count < 20, 4, head);
                int amount = head.text().equals("draw") ? number(t.get(i++), 1, 99) : 0;
                int times = number(t.get(i++), 1, 99);
                need(t.get(i).text().equals(";"), 1, t.get(i));
                i++;
                count++;
                for (int k = 0; k < times; k++) {
                    told.add(new Step(head.text(), amount));
                }
            }
            need(bytes.size() <= 300, 1, t.get(i));
            ticks = told;
            steps = count;
            both = withBoth;
            fault = 0;
            return count;
        } catch (Fault f) {
            fault = f.kind;
            return -1 - f.place;
        }
    }

    int fault() {
        return fault;
    }

    int car(int c, int what) {
        if (c < 1 || c > train.cars.size() || what < 0 || what > 6) {
            throw new NoSuchElementException();
        }
        Car car = train.cars.get(c - 1);
        return new int[] {car.kind, car.weight, car.out ? 1 : 0, car.keep, car.leak, car.hose, car.stuck}[what];
    }

    // ---- ticks

    private Step stepIn(int tick) {
        if (ticks.isEmpty()) {
            return new Step("hold", 0);
        }
        return ticks.get(Math.min(tick, ticks.size()) - 1);
    }

    private Pipe pipeAt(Train of, int tick) {
        Pipe pipe = new Pipe(of);
        for (int t = 1; t <= tick; t++) {
            pipe.tick(stepIn(t), both, 0);
        }
        return pipe;
    }

    int at(int tick, int cell, int what) {
        boolean cellThere = cell >= (what == 0 ? 0 : 1) && cell <= train.cars.size();
        if (tick < 0 || tick > 600 || what < 0 || what > 2 || !cellThere) {
            throw new NoSuchElementException();
        }
        Pipe pipe = pipeAt(train, tick);
        return (what == 0 ? pipe.p : what == 1 ? pipe.tank : pipe.cyl)[cell];
    }

    int hears(int c) {
        if (c >= 1 && c <= train.cars.size()) {
            Pipe pipe = new Pipe(train);
            for (int t = 1; t <= 600; t++) {
                pipe.tick(stepIn(t), both, 0);
                if (pipe.cyl[c] > 0) {
                    return t;
                }
            }
        }
        return -1;
    }

    int easy() {
        boolean[] heard = new boolean[601];
        Pipe pipe = new Pipe(train);
        for (int t = 1; t <= 600; t++) {
            pipe.tick(stepIn(t), both, 0);
            for (int c = 1; c <= train.cars.size(); c++) {
                heard[t] |= pipe.cyl[c] > 0;
            }
        }
        for (int t = 2; t <= 600; t++) {
            boolean ahead = false;
            for (int u = 1; u < t; u++) {
                ahead |= heard[u];
            }
            if (ahead && !heard[t]) {
                return t;
            }
        }
        return -1;
    }

    /** SPAN (or -1), TICKS, greatest SPEED, SPEED at the end. */
    private int[] ride(Train of, int grade, int speed, int snow, int dumpBehind, int partTick, int partBehind) {
        Pipe pipe = new Pipe(of);
        int w = 90;
        for (Car car : of.cars) {
            w += car.weight;
        }
        int way = 0;
        int most = speed;
        int t = 0;
        while (speed > 0 && t < 600) {
            t++;
            pipe.tick(t > dumpBehind ? new Step("dump", 0) : stepIn(t), both, t >= partTick ? partBehind : 0);
            int b = 0;
            for (int c = 1; c <= of.cars.size(); c++) {
                b += of.cars.get(c - 1).out ? 0 : pipe.cyl[c] * (100 - snow) / 100;
            }
            speed += (w * grade - 4 * b) / w;
            speed = speed < 0 ? 0 : speed;
            most = Math.max(most, speed);
            way += speed;
        }
        return new int[] {speed == 0 ? way : -1, speed == 0 ? t : 600, most, speed};
    }

    private int spanOf(Train of, int grade, int speed, int snow) {
        return ride(of, grade, speed, snow, 1000, 1000, 0)[0];
    }

    private static boolean bad(int grade, int speed, int snow) {
        return grade < -40 || grade > 40 || speed < 0 || speed > 3000 || snow < 0 || snow > 90;
    }

    int run(int grade, int speed, int snow) {
        if (bad(grade, speed, snow)) {
            return -2;
        }
        ran = ride(train, grade, speed, snow, 1000, 1000, 0);
        return ran[0];
    }

    int ran(int what) {
        return what >= 0 && what <= 2 ? ran[what + 1] : -1;
    }

    int help(int grade, int speed, int snow, int span) {
        if (bad(grade, speed, snow) || span < 0) {
            return -2;
        }
        for (int t = 400; t >= 0; t--) {
            int got = ride(train, grade, speed, snow, t, 1000, 0)[0];
            if (got >= 0 && got <= span) {
                return t;
            }
        }
        return -1;
    }

    int parted(int k, int tick, int grade, int speed, int snow) {
        if (bad(grade, speed, snow) || k < 1 || k > train.cars.size() - 1 || tick < 1 || tick > 600) {
            return -2;
        }
        return ride(train, grade, speed, snow, 1000, tick, k)[0];
    }

    private static void allOrders(List<Integer> begun, int n, List<List<Integer>> into) {
        if (begun.size() == n) {
            into.add(new ArrayList<>(begun));
        }
        for (int c = 1; c <= n; c++) {
            if (!begun.contains(c)) {
                begun.add(c);
                allOrders(begun, n, into);
                begun.remove(begun.size() - 1);
            }
        }
    }

    int order(int grade, int speed, int snow, int what) {
        if (bad(grade, speed, snow) || what < 0 || what > 1 || train.cars.size() > 6) {
            return -2;
        }
        List<List<Integer>> orders = new ArrayList<>();
        allOrders(new ArrayList<>(), train.cars.size(), orders);
        long best = 0;
        List<Integer> chosen = null;
        for (List<Integer> o : orders) {
            List<Car> cars = new ArrayList<>();
            for (int c : o) {
                cars.add(train.cars.get(c - 1));
            }
            int span = spanOf(new Train(train.full, train.feed, cars), grade, speed, snow);
            long rank = span < 0 ? Long.MAX_VALUE : span;
            if (chosen == null || (what == 0 ? rank < best : rank > best)) {
                best = rank;
                chosen = o;
            }
        }
        ordered = chosen;
        return best == Long.MAX_VALUE ? -1 : (int) best;
    }

    int ordered(int k) {
        return k >= 0 && k < ordered.size() ? ordered.get(k) : -1;
    }

    int cut(int grade, int speed, int snow, int span) {
        int n = train.cars.size();
        if (bad(grade, speed, snow) || span < 0 || n > 10) {
            return -2;
        }
        boolean[] fails = new boolean[n + 1];
        boolean[] tried = new boolean[n + 1];
        for (int set = 0; set < 1 << n; set++) {
            List<Car> cars = new ArrayList<>();
            boolean allBraked = true;
            for (int c = 0; c < n; c++) {
                boolean chosen = (set >> c & 1) == 1;
                allBraked &= !chosen || !train.cars.get(c).out;
                cars.add(chosen ? train.cars.get(c).cutOut() : train.cars.get(c));
            }
            if (allBraked) {
                int got = spanOf(new Train(train.full, train.feed, cars), grade, speed, snow);
                tried[Integer.bitCount(set)] = true;
                fails[Integer.bitCount(set)] |= got < 0 || got > span;
            }
        }
        int answer = -1;
        for (int k = 0; k <= n; k++) {
            if (tried[k] && !fails[k]) {
                answer = k;
            }
        }
        return answer;
    }

    // ---- guesses

    int fits(int off, int hot) {
        List<Integer> b = takeTape();
        int n = train.cars.size();
        if (b.isEmpty() || b.size() > 48 || b.size() % 6 != 0 || off < 0 || off > 99) {
            return -1;
        }
        if (hot < -1 || hot > (1 << n) - 1) {
            return -1;
        }
        int last = 0;
        for (int i = 0; i < b.size(); i += 6) {
            int tick = b.get(i) * 256 + b.get(i + 1);
            if (tick < 1 || tick > 400) {
                return -1;
            }
            last = Math.max(last, tick);
        }
        fitting = new ArrayList<>();
        fittedCars = n;
        for (int guess = 0; guess <= 10 * n + 6; guess++) {
            if (guess == 0 || guess >= 10 && guess % 10 <= 6) {
                if (fitsOne(train.guessed(guess), b, off, hot, last)) {
                    fitting.add(guess);
                }
            }
        }
        return fitting.size();
    }

    private boolean fitsOne(Train guessed, List<Integer> b, int off, int hot, int last) {
        for (int i = 0; i < b.size(); i += 6) {
            Pipe pipe = pipeAt(guessed, b.get(i) * 256 + b.get(i + 1));
            int front = b.get(i + 2) * 256 + b.get(i + 3);
            int back = b.get(i + 4) * 256 + b.get(i + 5);
            int behind = pipe.p[guessed.cars.size()];
            if (front > pipe.p[0] + off || front < pipe.p[0] - off || back > behind + off || back < behind - off) {
                return false;
            }
        }
        return hot == -1 || pipeAt(guessed, last).hot() == hot;
    }

    /** What the gauges at both ends show if a GUESS is true: the six bytes of a GAUGE. */
    int[] gaugeOf(int guess, int tick) {
        Pipe pipe = pipeAt(train.guessed(guess), tick);
        int front = pipe.p[0];
        int back = pipe.p[train.cars.size()];
        return new int[] {tick / 256, tick % 256, front / 256, front % 256, back / 256, back % 256};
    }

    int hotOf(int guess, int tick) {
        return pipeAt(train.guessed(guess), tick).hot();
    }

    int fitAt(int k) {
        return fitting != null && k >= 0 && k < fitting.size() ? fitting.get(k) : -1;
    }

    int walks(int tick) {
        int n = train.cars.size();
        if (tick < 1 || tick > 400 || fitting == null || fittedCars != n) {
            return -1;
        }
        List<Integer> seen = new ArrayList<>();
        for (int guess : fitting) {
            seen.add(pipeAt(train.guessed(guess), tick).hot());
        }
        int unparted = 0;
        TreeSet<Integer> differences = new TreeSet<>();
        for (int i = 0; i < seen.size(); i++) {
            for (int j = i + 1; j < seen.size(); j++) {
                int d = seen.get(i) ^ seen.get(j);
                if (d == 0) {
                    unparted++;
                } else {
                    differences.add(d);
                }
            }
        }
        int best = -1;
        for (int set = 0; set < 1 << n; set++) {
            boolean parts = true;
            for (int d : differences) {
                parts &= (d & set) != 0;
            }
            if (parts && (best < 0 || Integer.bitCount(set) < Integer.bitCount(best))) {
                best = set;
            }
        }
        walked = new int[] {best, unparted};
        return Integer.bitCount(best);
    }

    int walked(int what) {
        return walked != null && what >= 0 && what <= 1 ? walked[what] : -1;
    }

    // ---- the book

    private static TreeSet<Integer> row(List<Integer> bytes) {
        TreeSet<Integer> set = new TreeSet<>(bytes);
        boolean good = set.size() == bytes.size() && set.size() >= 1 && set.size() <= 16 && set.last() <= 39;
        return good ? set : null;
    }

    int day(boolean hot) {
        TreeSet<Integer> row = row(takeTape());
        if (row == null || rows.size() == 40) {
            return -1;
        }
        rows.add(row);
        mends.add(new TreeSet<>());
        hots.add(hot);
        return rows.size() - 1;
    }

    boolean mended(int wagon) {
        if (wagon < 0 || wagon > 39 || rows.isEmpty()) {
            return false;
        }
        mends.get(mends.size() - 1).add(wagon);
        return true;
    }

    /** Bad on a day: it began on that day or ahead of it, and was not mended since. */
    private boolean badOn(int wagon, int start, int day) {
        for (int i = start; i < day; i++) {
            if (mends.get(i).contains(wagon)) {
                return false;
            }
        }
        return start <= day;
    }

    private List<Integer> starts(int wagon, int d) {
        List<Integer> found = new ArrayList<>();
        for (int start = 0; start <= d; start++) {
            boolean good = true;
            for (int i = 0; i <= d; i++) {
                good &= hots.get(i) == (rows.get(i).contains(wagon) && badOn(wagon, start, i));
            }
            if (good) {
                found.add(start);
            }
        }
        return found;
    }

    int suspects(int d) {
        if (d < 0 || d >= rows.size()) {
            return -1;
        }
        suspects = new ArrayList<>();
        for (int wagon = 0; wagon < 40; wagon++) {
            if (!starts(wagon, d).isEmpty()) {
                suspects.add(wagon);
            }
        }
        return suspects.size();
    }

    int suspect(int k) {
        return k >= 0 && k < suspects.size() ? suspects.get(k) : -1;
    }

    int next() {
        TreeSet<Integer> row = row(takeTape());
        if (row == null || rows.isEmpty()) {
            return -1;
        }
        TreeSet<Boolean> said = new TreeSet<>();
        for (int wagon = 0; wagon < 40; wagon++) {
            List<Integer> starts = starts(wagon, rows.size() - 1);
            if (!starts.isEmpty()) {
                said.add(row.contains(wagon) && badOn(wagon, starts.get(starts.size() - 1), rows.size()));
            }
        }
        return said.isEmpty() ? -1 : said.size() == 2 ? 2 : said.first() ? 1 : 0;
    }

    int count(int what) {
        return switch (what) {
            case 0 -> train.cars.size();
            case 1 -> steps;
            case 2 -> rows.size();
            case 3 -> ticks.size();
            case 4 -> tape.size();
            default -> -1;
        };
    }
}
