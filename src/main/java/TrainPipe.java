import java.util.NoSuchElementException;

/**
 * The air pipe of a train, as ../shared/DOC.md tells it. All rows are made with the object and used
 * again by every call, so that no call makes an object of its own (but for an exception it throws).
 */
public final class TrainPipe {
    public static final int NONE = -1;

    private static final int NOT_AS_TOLD = -2;
    private static final int NO_LIMIT = 2147483647;
    private static final int FED_BYTES = 20;

    private static final int MOST_CARS = 16;
    private static final int CELLS = MOST_CARS + 1;
    private static final int MOST_TICKS = 600;
    private static final int MOST_EARLY_TICKS = 400;

    private static final int OLD = 0;
    private static final int QUICK = 1;
    private static final int SLOW = 2;

    // What car() may be asked for; the same numbers name the facts of a CAR inside.
    private static final int KIND = 0;
    private static final int WEIGHT = 1;
    private static final int OUT = 2;
    private static final int KEEP = 3;
    private static final int LEAK = 4;
    private static final int HOSE = 5;
    private static final int STUCK = 6;

    private static final int STUCK_ON = 1;
    private static final int STUCK_OFF = 2;

    private static final int LET = 0;
    private static final int HOLD = 1;
    private static final int DRAW = 2;
    private static final int DUMP = 3;

    private static final int FAULT_TOKEN = 1;
    private static final int FAULT_NUMBER = 2;
    private static final int FAULT_TWICE = 3;
    private static final int FAULT_MANY = 4;

    private final Tape tape = new Tape();
    private final Tokens tokens = new Tokens(tape);
    private final TrainText trainText = new TrainText(tokens);
    private final HandleText handleText = new HandleText(tokens);
    private final Rake rake = new Rake();
    private final Lever lever = new Lever();
    private final Air air = new Air();
    private final Ride ride = new Ride();
    private final Trials trials = new Trials(rake, lever);
    private final Guesses guesses = new Guesses(rake, lever);
    private final Book book = new Book();
    private int latestFault = 0;
    private boolean hasRun = false;

    public TrainPipe() {
        rake.addCar(OLD, 50);
    }

    public int feed(int a, int b, int c, int d, int e) {
        if (!tape.hasRoom(FED_BYTES)) {
            return NONE;
        }
        tape.putNumber(a);
        tape.putNumber(b);
        tape.putNumber(c);
        tape.putNumber(d);
        tape.putNumber(e);
        return tape.size;
    }

    public boolean end(int n) {
        return tape.keepFirst(n);
    }

    public int train() {
        int lines = trainText.readTape();
        latestFault = tokens.fault;
        tape.keepFirst(0);
        if (lines == NONE) {
            return -1 - tokens.faultPlace;
        }
        rake.copyFrom(trainText.draft);
        return lines;
    }

    public int handle() {
        int steps = handleText.readTape();
        latestFault = tokens.fault;
        tape.keepFirst(0);
        if (steps == NONE) {
            return -1 - tokens.faultPlace;
        }
        lever.copyFrom(handleText.draft);
        return steps;
    }

    public int fault() {
        return latestFault;
    }

    public int car(int c, int what) throws NoSuchElementException {
        if (!rake.has(c) || what < KIND || what > STUCK) {
            throw new NoSuchElementException("no such car, or nothing such of it");
        }
        return rake.fact(c, what);
    }

    public int at(int tick, int cell, int what) throws NoSuchElementException {
        boolean found = what == 0 ? cell == 0 || rake.has(cell) : (what == 1 || what == 2) && rake.has(cell);
        if (!found || tick < 0 || tick > MOST_TICKS) {
            throw new NoSuchElementException("no such tick or cell, or nothing such of it");
        }
        air.start(rake);
        for (int t = 0; t < tick; t++) {
            air.advance(rake, lever);
        }
        return air.measure(cell, what);
    }

    public int hears(int c) {
        if (!rake.has(c)) {
            return NONE;
        }
        air.start(rake);
        for (int t = 1; t <= MOST_TICKS; t++) {
            air.advance(rake, lever);
            if (air.measure(c, 2) > 0) {
                return t;
            }
        }
        return NONE;
    }

    public int easy() {
        boolean heard = false;
        air.start(rake);
        for (int t = 1; t <= MOST_TICKS; t++) {
            air.advance(rake, lever);
            boolean heardNow = air.anyHears(rake);
            if (heard && !heardNow) {
                return t;
            }
            heard = heard || heardNow;
        }
        return NONE;
    }

    public int run(int grade, int speed, int snow) {
        if (!isRun(grade, speed, snow)) {
            return NOT_AS_TOLD;
        }
        hasRun = true;
        air.start(rake);
        ride.start(grade, speed, snow);
        return ride.spanWithin(NO_LIMIT, rake, lever, air);
    }

    public int ran(int what) {
        if (!hasRun) {
            return NONE;
        }
        switch (what) {
            case 0:
                return ride.ticks;
            case 1:
                return ride.fastest;
            case 2:
                return ride.speed;
            default:
                return NONE;
        }
    }

    public int help(int grade, int speed, int snow, int span) {
        if (!isRun(grade, speed, snow) || span < 0) {
            return NOT_AS_TOLD;
        }
        trials.tell(grade, speed, snow);
        return trials.lastHelp(span);
    }

    public int parted(int k, int tick, int grade, int speed, int snow) {
        boolean told = k >= 1 && k < rake.size && tick >= 1 && tick <= MOST_TICKS;
        if (!told || !isRun(grade, speed, snow)) {
            return NOT_AS_TOLD;
        }
        trials.tell(grade, speed, snow);
        return trials.spanParted(k, tick);
    }

    public int order(int grade, int speed, int snow, int what) {
        boolean told = (what == 0 || what == 1) && rake.size <= Trials.MOST_ORDERED;
        if (!told || !isRun(grade, speed, snow)) {
            return NOT_AS_TOLD;
        }
        trials.tell(grade, speed, snow);
        return what == 0 ? trials.leastOrder() : trials.greatestOrder();
    }

    public int ordered(int k) {
        return trials.bestAt(k);
    }

    public int cut(int grade, int speed, int snow, int span) {
        boolean told = span >= 0 && rake.size <= Trials.MOST_CUT;
        if (!told || !isRun(grade, speed, snow)) {
            return NOT_AS_TOLD;
        }
        trials.tell(grade, speed, snow);
        return trials.mostCut(span);
    }

    public int fits(int off, int hot) {
        boolean told = guesses.readGauges(tape);
        tape.keepFirst(0);
        boolean hotTold = hot >= NONE && hot < (1 << rake.size);
        if (!told || !hotTold || off < 0 || off > 99) {
            return NONE;
        }
        return guesses.findFitting(off, hot);
    }

    public int fitAt(int k) {
        return guesses.fittingAt(k);
    }

    public int walks(int tick) {
        if (tick < 1 || tick > MOST_EARLY_TICKS || !guesses.canWalk()) {
            return NONE;
        }
        return guesses.findWalk(tick);
    }

    public int walked(int what) {
        if (!guesses.hasWalked) {
            return NONE;
        }
        switch (what) {
            case 0:
                return guesses.walkSet;
            case 1:
                return guesses.unparted;
            default:
                return NONE;
        }
    }

    public int day(boolean hot) {
        long row = book.rowOf(tape);
        tape.keepFirst(0);
        return book.addDay(row, hot);
    }

    public boolean mended(int wagon) {
        return book.mend(wagon);
    }

    public int suspects(int d) {
        return book.findSuspects(d);
    }

    public int suspect(int k) {
        return book.foundAt(k);
    }

    public int next() {
        long row = book.rowOf(tape);
        tape.keepFirst(0);
        return book.foresee(row);
    }

    public int count(int what) {
        switch (what) {
            case 0:
                return rake.size;
            case 1:
                return lever.size;
            case 2:
                return book.days;
            case 3:
                return lever.allTicks();
            case 4:
                return tape.size;
            default:
                return NONE;
        }
    }

    private static boolean isRun(int grade, int speed, int snow) {
        return grade >= -40 && grade <= 40 && speed >= 0 && speed <= 3000 && snow >= 0 && snow <= 90;
    }

    /** The bytes that were fed, as numbers 0 to 255. */
    private static final class Tape {
        static final int MOST = 740;

        final int[] bytes = new int[MOST];
        int size = 0;

        boolean hasRoom(int more) {
            return size + more <= MOST;
        }

        void putNumber(int number) {
            for (int shift = 24; shift >= 0; shift -= 8) {
                if (size < MOST) {
                    bytes[size] = (number >> shift) & 255;
                    size++;
                }
            }
        }

        boolean keepFirst(int n) {
            if (n < 0 || n > size) {
                return false;
            }
            size = n;
            return true;
        }

        /** NONE behind the end, so that a reader need not look at the size at every step. */
        int byteAt(int place) {
            return place >= 0 && place < size ? bytes[place] : NONE;
        }

        int pairAt(int place) {
            return byteAt(place) * 256 + byteAt(place + 1);
        }
    }

    /** The tape's TOKENS one by one, and the first FAULT that was found in them. */
    private static final class Tokens {
        private static final int AT_END = 0;
        private static final int IS_WORD = 1;
        private static final int IS_NUMBER = 2;
        private static final int IS_MARK = 3;
        private static final int IS_NO_TOKEN = 4;

        private final Tape tape;
        private int limit = 0;
        private int form = AT_END;
        private int start = 0;
        private int stop = 0;
        private int value = 0;
        int fault = 0;
        int faultPlace = 0;

        Tokens(Tape tape) {
            this.tape = tape;
        }

        void open(int mostBytes) {
            limit = Math.min(mostBytes, tape.size);
            stop = 0;
            fault = 0;
            faultPlace = 0;
            read();
        }

        boolean atEnd() {
            return form == AT_END;
        }

        boolean tooLong() {
            return tape.size > limit;
        }

        void read() {
            start = stop;
            while (start < limit && (tape.byteAt(start) == ' ' || tape.byteAt(start) == '\n')) {
                start++;
            }
            if (start >= limit) {
                // The last token may have gone on beyond the limit, but the end is told at the limit.
                start = limit;
                form = AT_END;
            } else if (tape.byteAt(start) == ';') {
                stop = start + 1;
                form = IS_MARK;
            } else {
                readSigns();
            }
        }

        private void readSigns() {
            int letters = 0;
            int digits = 0;
            value = 0;
            for (stop = Math.max(0, start); stop < tape.size && stop < Tape.MOST; stop++) {
                int sign = tape.bytes[stop];
                if (sign >= 'a' && sign <= 'z') {
                    letters++;
                } else if (sign >= '0' && sign <= '9') {
                    value = value * 10 + sign - '0';
                    digits++;
                } else {
                    break;
                }
            }
            if (digits == 0 && letters >= 1 && letters <= 5) {
                form = IS_WORD;
            } else if (letters == 0 && digits >= 1 && digits <= 3) {
                form = IS_NUMBER;
            } else {
                form = IS_NO_TOKEN;
            }
        }

        boolean isWord(String word) {
            if (form != IS_WORD || stop - start != word.length()) {
                return false;
            }
            for (int i = 0; i < word.length(); i++) {
                if (tape.byteAt(start + i) != word.charAt(i)) {
                    return false;
                }
            }
            return true;
        }

        int takeNumber(int least, int most) {
            if (form != IS_NUMBER) {
                refuse(FAULT_TOKEN);
                return NONE;
            }
            if (value < least || value > most) {
                refuse(FAULT_NUMBER);
                return NONE;
            }
            int told = value;
            read();
            return told;
        }

        boolean takeMark() {
            if (form != IS_MARK) {
                return refuse(FAULT_TOKEN);
            }
            read();
            return true;
        }

        /** Always false, so that a reader can give it back as its own answer. */
        boolean refuse(int why) {
            fault = why;
            faultPlace = start;
            return false;
        }
    }

    /** Reads a TRAIN from the tape into a draft: the TRAIN that stands must outlive a FAULT. */
    private static final class TrainText {
        private static final int MOST_BYTES = 700;
        private static final int OPTIONS = 5;

        private final Tokens tokens;
        final Rake draft = new Rake();
        private int fullTold = NONE;
        private int feedTold = NONE;

        TrainText(Tokens tokens) {
            this.tokens = tokens;
        }

        /** How many LINES; NONE: a FAULT, which the tokens keep. */
        int readTape() {
            draft.clear();
            fullTold = NONE;
            feedTold = NONE;
            tokens.open(MOST_BYTES);
            int lines = 0;
            while (lines < Tape.MOST && !tokens.atEnd()) {
                if (!readLine() || !tokens.takeMark()) {
                    return NONE;
                }
                lines++;
            }
            if (tokens.tooLong() || draft.size == 0) {
                tokens.refuse(FAULT_TOKEN);
                return NONE;
            }
            draft.full = fullTold == NONE ? draft.full : fullTold;
            draft.feed = feedTold == NONE ? draft.feed : feedTold;
            return lines;
        }

        private boolean readLine() {
            if (tokens.isWord("full")) {
                fullTold = takeOnce(fullTold, 300, 900);
                return fullTold != NONE;
            }
            if (tokens.isWord("feed")) {
                feedTold = takeOnce(feedTold, 1, 99);
                return feedTold != NONE;
            }
            if (tokens.isWord("car")) {
                return readCar() && readOptions();
            }
            return tokens.refuse(FAULT_TOKEN);
        }

        /** The NUMBER behind the word at hand, which may not have told one before. */
        private int takeOnce(int before, int least, int most) {
            if (before != NONE) {
                tokens.refuse(FAULT_TWICE);
                return NONE;
            }
            tokens.read();
            return tokens.takeNumber(least, most);
        }

        private boolean readCar() {
            if (draft.size >= MOST_CARS) {
                return tokens.refuse(FAULT_MANY);
            }
            tokens.read();
            int kind = kindHere();
            if (kind == NONE) {
                return tokens.refuse(FAULT_TOKEN);
            }
            tokens.read();
            int weight = tokens.takeNumber(10, 99);
            if (weight == NONE) {
                return false;
            }
            draft.addCar(kind, weight);
            return true;
        }

        private boolean readOptions() {
            int told = 0;
            for (int i = 0; i <= OPTIONS; i++) {
                int what = optionHere();
                if (what == NONE) {
                    return true;
                }
                if (((told >> what) & 1) == 1) {
                    return tokens.refuse(FAULT_TWICE);
                }
                told |= 1 << what;
                tokens.read();
                int value = what == OUT ? 1 : what == STUCK ? takeStuck() : tokens.takeNumber(0, mostOf(what));
                if (value == NONE) {
                    return false;
                }
                draft.setFact(draft.size, what, value);
            }
            return tokens.refuse(FAULT_TWICE);
        }

        private int kindHere() {
            if (tokens.isWord("old")) {
                return OLD;
            }
            if (tokens.isWord("quick")) {
                return QUICK;
            }
            return tokens.isWord("slow") ? SLOW : NONE;
        }

        private int optionHere() {
            if (tokens.isWord("out")) {
                return OUT;
            }
            if (tokens.isWord("keep")) {
                return KEEP;
            }
            if (tokens.isWord("leak")) {
                return LEAK;
            }
            if (tokens.isWord("hose")) {
                return HOSE;
            }
            return tokens.isWord("stuck") ? STUCK : NONE;
        }

        private static int mostOf(int what) {
            return what == KEEP ? 3 : what == LEAK ? 99 : 100;
        }

        private int takeStuck() {
            int told = tokens.isWord("on") ? STUCK_ON : tokens.isWord("off") ? STUCK_OFF : NONE;
            if (told == NONE) {
                tokens.refuse(FAULT_TOKEN);
            } else {
                tokens.read();
            }
            return told;
        }
    }

    /** Reads a HANDLE from the tape into a draft, as TrainText does a TRAIN. */
    private static final class HandleText {
        private static final int MOST_BYTES = 300;

        private final Tokens tokens;
        final Lever draft = new Lever();

        HandleText(Tokens tokens) {
            this.tokens = tokens;
        }

        /** How many STEPS; NONE: a FAULT, which the tokens keep. */
        int readTape() {
            draft.clear();
            tokens.open(MOST_BYTES);
            if (tokens.isWord("both")) {
                tokens.read();
                if (!tokens.takeMark()) {
                    return NONE;
                }
                draft.both = true;
            }
            for (int i = 0; i <= Lever.MOST_STEPS && !tokens.atEnd(); i++) {
                if (!readStep() || !tokens.takeMark()) {
                    return NONE;
                }
            }
            if (tokens.tooLong()) {
                tokens.refuse(FAULT_TOKEN);
                return NONE;
            }
            return draft.size;
        }

        private boolean readStep() {
            int act = actHere();
            if (act == NONE) {
                return tokens.refuse(FAULT_TOKEN);
            }
            if (draft.size >= Lever.MOST_STEPS) {
                return tokens.refuse(FAULT_MANY);
            }
            tokens.read();
            int amount = act == DRAW ? tokens.takeNumber(1, 99) : 0;
            if (amount == NONE) {
                return false;
            }
            int ticks = tokens.takeNumber(1, 99);
            if (ticks == NONE) {
                return false;
            }
            draft.addStep(act, amount, ticks);
            return true;
        }

        private int actHere() {
            if (tokens.isWord("let")) {
                return LET;
            }
            if (tokens.isWord("hold")) {
                return HOLD;
            }
            if (tokens.isWord("draw")) {
                return DRAW;
            }
            return tokens.isWord("dump") ? DUMP : NONE;
        }
    }

    /** A TRAIN as told: rows by the CARS' numbers from 1 on, so that they are the CELLS' numbers, too. */
    private static final class Rake {
        private static final int ENGINE_WEIGHT = 90;

        int size = 0;
        int full = 700;
        int feed = 40;
        final int[] kind = new int[CELLS];
        final int[] weight = new int[CELLS];
        final int[] out = new int[CELLS];
        final int[] keep = new int[CELLS];
        final int[] leak = new int[CELLS];
        final int[] hose = new int[CELLS];
        final int[] stuck = new int[CELLS];

        boolean has(int c) {
            return c >= 1 && c <= size;
        }

        void clear() {
            size = 0;
            full = 700;
            feed = 40;
        }

        void addCar(int itsKind, int itsWeight) {
            if (size >= MOST_CARS) {
                return;
            }
            size++;
            kind[size] = itsKind;
            weight[size] = itsWeight;
            out[size] = 0;
            keep[size] = 0;
            leak[size] = 0;
            hose[size] = 100;
            stuck[size] = 0;
        }

        int fact(int c, int what) {
            if (!has(c)) {
                return NONE;
            }
            switch (what) {
                case KIND:
                    return kind[c];
                case WEIGHT:
                    return weight[c];
                case OUT:
                    return out[c];
                case KEEP:
                    return keep[c];
                case LEAK:
                    return leak[c];
                case HOSE:
                    return hose[c];
                case STUCK:
                    return stuck[c];
                default:
                    return NONE;
            }
        }

        void setFact(int c, int what, int value) {
            if (!has(c)) {
                return;
            }
            switch (what) {
                case OUT:
                    out[c] = value;
                    break;
                case KEEP:
                    keep[c] = value;
                    break;
                case LEAK:
                    leak[c] = value;
                    break;
                case HOSE:
                    hose[c] = value;
                    break;
                case STUCK:
                    stuck[c] = value;
                    break;
                default:
                    break;
            }
        }

        void copyFrom(Rake other) {
            size = other.size;
            full = other.full;
            feed = other.feed;
            for (int c = 1; c <= size && c < CELLS; c++) {
                takeCar(c, other, c);
            }
        }

        /** CAR c comes to be what that CAR of another TRAIN is. */
        void takeCar(int c, Rake other, int that) {
            if (!has(c) || !other.has(that)) {
                return;
            }
            kind[c] = other.kind[that];
            weight[c] = other.weight[that];
            out[c] = other.out[that];
            keep[c] = other.keep[that];
            leak[c] = other.leak[that];
            hose[c] = other.hose[that];
            stuck[c] = other.stuck[that];
        }

        int wholeWeight() {
            int sum = ENGINE_WEIGHT;
            for (int c = 1; c <= size && c < CELLS; c++) {
                sum += weight[c];
            }
            return sum;
        }
    }

    /** A HANDLE as told. */
    private static final class Lever {
        static final int MOST_STEPS = 20;

        int size = 0;
        boolean both = false;
        private final int[] acts = new int[MOST_STEPS];
        private final int[] amounts = new int[MOST_STEPS];
        private final int[] lastTicks = new int[MOST_STEPS];

        void clear() {
            size = 0;
            both = false;
        }

        void addStep(int act, int amount, int ticks) {
            if (size >= MOST_STEPS) {
                return;
            }
            int before = allTicks();
            acts[size] = act;
            amounts[size] = amount;
            lastTicks[size] = before + ticks;
            size++;
        }

        void copyFrom(Lever other) {
            size = other.size;
            both = other.both;
            System.arraycopy(other.acts, 0, acts, 0, MOST_STEPS);
            System.arraycopy(other.amounts, 0, amounts, 0, MOST_STEPS);
            System.arraycopy(other.lastTicks, 0, lastTicks, 0, MOST_STEPS);
        }

        int allTicks() {
            return size >= 1 && size <= MOST_STEPS ? lastTicks[size - 1] : 0;
        }

        int actOf(int step) {
            return step >= 0 && step < size && step < MOST_STEPS ? acts[step] : HOLD;
        }

        int amountOf(int step) {
            return step >= 0 && step < size && step < MOST_STEPS ? amounts[step] : 0;
        }

        /** Whether a STEP is over ahead of a TICK and another one follows it. */
        boolean isOver(int step, int tick) {
            return step >= 0 && step < size - 1 && step < MOST_STEPS && tick > lastTicks[step];
        }
    }

    /** What the pipe holds at the end of a TICK. */
    private static final class Air {
        private static final int MOST_CYLINDER = 500;

        private final int[] pressure = new int[CELLS];
        private final int[] before = new int[CELLS];
        private final int[] tank = new int[CELLS];
        final int[] cylinder = new int[CELLS];
        private int tick = 0;
        private int step = 0;
        private boolean dumping = false;
        private int brokenCell = NONE;
        private int brokenTick = 0;
        /** The latest TICK changed nothing: then a like one changes nothing either, and may be left out. */
        boolean still = false;

        void start(Rake rake) {
            for (int c = 0; c < CELLS; c++) {
                pressure[c] = rake.full;
                tank[c] = rake.full;
                cylinder[c] = 0;
            }
            tick = 0;
            step = 0;
            dumping = false;
            brokenCell = NONE;
            brokenTick = 0;
            still = false;
        }

        void copyFrom(Air other) {
            System.arraycopy(other.pressure, 0, pressure, 0, CELLS);
            System.arraycopy(other.tank, 0, tank, 0, CELLS);
            System.arraycopy(other.cylinder, 0, cylinder, 0, CELLS);
            tick = other.tick;
            step = other.step;
            dumping = other.dumping;
            brokenCell = other.brokenCell;
            brokenTick = other.brokenTick;
            still = other.still;
        }

        void dumpFromNowOn() {
            dumping = true;
            still = false;
        }

        void partBehind(int cell, int atTick) {
            brokenCell = cell;
            brokenTick = atTick;
        }

        /** 0 the PRESSURE, 1 the TANK, 2 the CYLINDER. */
        int measure(int cell, int what) {
            if (cell < 0 || cell >= CELLS) {
                return NONE;
            }
            return what == 0 ? pressure[cell] : what == 1 ? tank[cell] : cylinder[cell];
        }

        boolean anyHears(Rake rake) {
            for (int c = 1; c <= rake.size && c < CELLS; c++) {
                if (cylinder[c] > 0) {
                    return true;
                }
            }
            return false;
        }

        /** The CARS that are HOT, as bits. */
        int hotSet(Rake rake) {
            int set = 0;
            for (int c = 1; c <= rake.size && c < CELLS; c++) {
                if (cylinder[c] >= 100) {
                    set |= 1 << (c - 1);
                }
            }
            return set;
        }

        void advance(Rake rake, Lever lever) {
            tick++;
            if (lever.isOver(step, tick)) {
                step++;
                still = false;
            }
            if (tick == brokenTick) {
                still = false;
            }
            if (still) {
                return;
            }
            System.arraycopy(pressure, 0, before, 0, CELLS);
            int act = dumping ? DUMP : lever.actOf(step);
            int amount = lever.amountOf(step);
            work(rake, act, amount, 0);
            if (lever.both) {
                work(rake, act, amount, rake.size);
            }
            boolean broken = brokenCell != NONE && tick >= brokenTick;
            flow(rake, broken ? brokenCell : NONE);
            boolean moved = false;
            for (int c = 1; c <= rake.size && c < CELLS; c++) {
                pressure[c] -= pressure[c] * rake.leak[c] / 1000;
                if (rake.out[c] == 0 && moveValve(rake, c)) {
                    moved = true;
                }
            }
            still = !moved && samePressure(rake.size);
        }

        private void work(Rake rake, int act, int amount, int cell) {
            if (cell < 0 || cell >= CELLS) {
                return;
            }
            if (act == LET && pressure[cell] < rake.full) {
                pressure[cell] = Math.min(rake.full, pressure[cell] + rake.feed);
            } else if (act == DRAW) {
                pressure[cell] = Math.max(0, pressure[cell] - amount);
            } else if (act == DUMP) {
                pressure[cell] = 0;
            }
        }

        private void flow(Rake rake, int broken) {
            int ahead = pressure[0];
            for (int c = 1; c <= rake.size && c < CELLS; c++) {
                int here = pressure[c];
                int flowing = c - 1 == broken ? 0 : (ahead - here) * rake.hose[c] / 400;
                pressure[c - 1] -= flowing;
                pressure[c] += flowing;
                // All hoses flow at once: the next one sees this CELL as it was.
                ahead = here;
            }
            if (broken >= 0 && broken < CELLS - 1) {
                pressure[broken] = 0;
                pressure[broken + 1] = 0;
            }
        }

        /** Whether it SETS or LETS GO. */
        private boolean moveValve(Rake rake, int c) {
            if (c < 1 || c >= CELLS) {
                return false;
            }
            int kind = rake.kind[c];
            int sense = kind == QUICK ? 10 : kind == SLOW ? 30 : 20;
            int rise = pressure[c] - tank[c];
            if (rise < -sense && rake.stuck[c] != STUCK_OFF) {
                int rate = kind == QUICK ? 30 : kind == SLOW ? 12 : 20;
                int given = Math.min(rate, -rise);
                tank[c] -= given;
                cylinder[c] = Math.min(MOST_CYLINDER, cylinder[c] + 2 * given);
                if (kind == QUICK) {
                    pressure[c] = Math.max(0, pressure[c] - 8);
                }
                return true;
            }
            if (rise > sense) {
                int floor = 100 * rake.keep[c];
                if (rake.stuck[c] != STUCK_ON && cylinder[c] > floor) {
                    int fall = kind == QUICK ? 40 : kind == SLOW ? 12 : 30;
                    cylinder[c] = Math.max(floor, cylinder[c] - fall);
                }
                int taken = Math.min(10, rise / 2);
                pressure[c] -= taken;
                tank[c] += taken;
                return true;
            }
            return false;
        }

        private boolean samePressure(int cars) {
            for (int c = 0; c <= cars && c < CELLS; c++) {
                if (pressure[c] != before[c]) {
                    return false;
                }
            }
            return true;
        }
    }

    /** A RUN as far as it has come. */
    private static final class Ride {
        private int grade = 0;
        private int snow = 0;
        private int gain = 0;
        private int way = 0;
        int speed = 0;
        int ticks = 0;
        int fastest = 0;

        void start(int itsGrade, int firstSpeed, int itsSnow) {
            grade = itsGrade;
            snow = itsSnow;
            gain = 0;
            way = 0;
            speed = firstSpeed;
            ticks = 0;
            fastest = firstSpeed;
        }

        void copyFrom(Ride other) {
            grade = other.grade;
            snow = other.snow;
            gain = other.gain;
            way = other.way;
            speed = other.speed;
            ticks = other.ticks;
            fastest = other.fastest;
        }

        boolean isStopped() {
            return speed == 0;
        }

        boolean isWithin(int limit) {
            return way <= limit;
        }

        /** One TICK more, the air having done it already. */
        void roll(Rake rake, Air air) {
            if (ticks == 0 || !air.still) {
                gain = gainBy(rake, air);
            }
            ticks++;
            speed = Math.max(0, speed + gain);
            fastest = Math.max(fastest, speed);
            way += speed;
        }

        private int gainBy(Rake rake, Air air) {
            int whole = rake.wholeWeight();
            int braking = 0;
            for (int c = 1; c <= rake.size && c < CELLS; c++) {
                if (rake.out[c] == 0) {
                    braking += air.cylinder[c] * (100 - snow) / 100;
                }
            }
            return whole > 0 ? (whole * grade - 4 * braking) / whole : 0;
        }

        /** The SPAN; NONE: it is not STOPPED, or goes beyond the limit: then it is not run to its end. */
        int spanWithin(int limit, Rake rake, Lever lever, Air air) {
            for (int i = 0; i < MOST_TICKS; i++) {
                if (isStopped() || ticks >= MOST_TICKS || !isWithin(limit)) {
                    break;
                }
                air.advance(rake, lever);
                roll(rake, air);
            }
            return isStopped() && isWithin(limit) ? way : NONE;
        }
    }

    /** RUNS of the TRAIN with something changed: a dump, a parting, the order, CARS cut out. */
    private static final class Trials {
        static final int MOST_ORDERED = 6;
        static final int MOST_CUT = 10;
        private static final int ALL_ORDERS = 720;

        private final Rake told;
        private final Lever lever;
        private final Rake bent = new Rake();
        private final Air air = new Air();
        private final Air baseAir = new Air();
        private final Ride ride = new Ride();
        private final Ride baseRide = new Ride();
        private final int[] tried = new int[MOST_ORDERED];
        private final int[] best = new int[MOST_ORDERED];
        private int bestSize = 0;
        private final int[] braked = new int[MOST_CUT];
        private int grade = 0;
        private int speed = 0;
        private int snow = 0;

        Trials(Rake told, Lever lever) {
            this.told = told;
            this.lever = lever;
        }

        void tell(int itsGrade, int itsSpeed, int itsSnow) {
            grade = itsGrade;
            speed = itsSpeed;
            snow = itsSnow;
        }

        /** HELP: the RUN by the HANDLE goes on TICK by TICK, and from each TICK a dump is tried aside. */
        int lastHelp(int span) {
            int last = NONE;
            baseAir.start(told);
            baseRide.start(grade, speed, snow);
            for (int t = 0; t <= MOST_EARLY_TICKS; t++) {
                if (!baseRide.isWithin(span)) {
                    return last;
                }
                if (baseRide.isStopped()) {
                    return MOST_EARLY_TICKS;
                }
                air.copyFrom(baseAir);
                air.dumpFromNowOn();
                ride.copyFrom(baseRide);
                if (ride.spanWithin(span, told, lever, air) != NONE) {
                    last = t;
                }
                baseAir.advance(told, lever);
                baseRide.roll(told, baseAir);
            }
            return last;
        }

        int spanParted(int k, int tick) {
            air.start(told);
            air.partBehind(k, tick);
            ride.start(grade, speed, snow);
            return ride.spanWithin(NO_LIMIT, told, lever, air);
        }

        int leastOrder() {
            int least = NONE;
            firstOrder();
            keepOrder();
            for (int i = 0; i < ALL_ORDERS; i++) {
                layOrder();
                // A later order has to be less to count, so a RUN may end where it is not.
                int span = spanOfBent(least == NONE ? NO_LIMIT : least - 1);
                if (span != NONE) {
                    least = span;
                    keepOrder();
                }
                if (!nextOrder()) {
                    break;
                }
            }
            return least;
        }

        int greatestOrder() {
            int greatest = NONE;
            firstOrder();
            for (int i = 0; i < ALL_ORDERS; i++) {
                layOrder();
                int span = spanOfBent(NO_LIMIT);
                if (span == NONE || span > greatest) {
                    greatest = span;
                    keepOrder();
                }
                if (span == NONE || !nextOrder()) {
                    break;
                }
            }
            return greatest;
        }

        int bestAt(int k) {
            return k >= 0 && k < bestSize && k < MOST_ORDERED ? best[k] : NONE;
        }

        private void firstOrder() {
            bent.copyFrom(told);
            for (int i = 0; i < MOST_ORDERED; i++) {
                tried[i] = i + 1;
            }
        }

        private void keepOrder() {
            bestSize = told.size;
            System.arraycopy(tried, 0, best, 0, MOST_ORDERED);
        }

        private void layOrder() {
            for (int i = 0; i < told.size && i < MOST_ORDERED; i++) {
                bent.takeCar(i + 1, told, tried[i]);
            }
        }

        private int spanOfBent(int limit) {
            air.start(bent);
            ride.start(grade, speed, snow);
            return ride.spanWithin(limit, bent, lever, air);
        }

        /** The order that follows when they are sorted as rows of numbers; false behind the last one. */
        private boolean nextOrder() {
            int size = Math.min(told.size, MOST_ORDERED);
            int low = size - 2;
            while (low >= 0 && low < MOST_ORDERED - 1 && tried[low] > tried[low + 1]) {
                low--;
            }
            if (low < 0) {
                return false;
            }
            int high = size - 1;
            while (high > low && high < MOST_ORDERED && tried[high] < tried[low]) {
                high--;
            }
            swap(low, high);
            for (int i = 1; low + i < size - i; i++) {
                swap(low + i, size - i);
            }
            return true;
        }

        private void swap(int i, int j) {
            if (i >= 0 && i < MOST_ORDERED && j >= 0 && j < MOST_ORDERED) {
                int kept = tried[i];
                tried[i] = tried[j];
                tried[j] = kept;
            }
        }

        /** Nothing says that fewer brakes never stop it sooner: so every k is tried, the greatest first. */
        int mostCut(int span) {
            int count = findBraked();
            bent.copyFrom(told);
            for (int k = count; k >= 0; k--) {
                if (stopsWithout(k, count, span)) {
                    return k;
                }
            }
            return NONE;
        }

        private int findBraked() {
            int count = 0;
            for (int c = 1; c <= told.size && c <= MOST_CUT; c++) {
                if (told.out[c] == 0 && count < MOST_CUT) {
                    braked[count] = c;
                    count++;
                }
            }
            return count;
        }

        private boolean stopsWithout(int k, int count, int span) {
            for (int set = 0; set < (1 << count); set++) {
                if (Integer.bitCount(set) == k) {
                    for (int i = 0; i < count && i < MOST_CUT; i++) {
                        bent.setFact(braked[i], OUT, (set >> i) & 1);
                    }
                    if (spanOfBent(span) == NONE) {
                        return false;
                    }
                }
            }
            return true;
        }
    }

    /** GUESSES that FIT GAUGES, and the WALKS that part them. */
    private static final class Guesses {
        private static final int MOST_GAUGES = 8;
        private static final int GAUGE_BYTES = 6;
        private static final int PER_CAR = 7;
        private static final int MOST = 1 + PER_CAR * MOST_CARS;

        private final Rake told;
        private final Lever lever;
        private final Rake bent = new Rake();
        private final Air air = new Air();
        private final int[] gaugeTick = new int[MOST_GAUGES];
        private final int[] gaugeFront = new int[MOST_GAUGES];
        private final int[] gaugeBack = new int[MOST_GAUGES];
        private int gauges = 0;
        private int greatestTick = 0;
        private final int[] fitting = new int[MOST];
        private int fittingSize = 0;
        /** How many CARS the TRAIN of the latest fits() had; 0 ahead of any. */
        private int fittedCars = 0;
        /** The unlike sets of HOT CARS of a walk, and how many GUESSES have each. */
        private final int[] hotSets = new int[MOST];
        private final int[] hotTimes = new int[MOST];
        private int hotSize = 0;
        boolean hasWalked = false;
        int walkSet = 0;
        int unparted = 0;

        Guesses(Rake told, Lever lever) {
            this.told = told;
            this.lever = lever;
        }

        /** Whether the tape's bytes are GAUGES as told. */
        boolean readGauges(Tape tape) {
            int size = tape.size / GAUGE_BYTES;
            gauges = 0;
            greatestTick = 0;
            if (tape.size % GAUGE_BYTES != 0 || size < 1 || size > MOST_GAUGES) {
                return false;
            }
            for (int g = 0; g < size && g < MOST_GAUGES; g++) {
                int place = g * GAUGE_BYTES;
                int tick = tape.pairAt(place);
                if (tick < 1 || tick > MOST_EARLY_TICKS) {
                    return false;
                }
                gaugeTick[g] = tick;
                gaugeFront[g] = tape.pairAt(place + 2);
                gaugeBack[g] = tape.pairAt(place + 4);
                greatestTick = Math.max(greatestTick, tick);
            }
            gauges = size;
            return true;
        }

        int findFitting(int off, int hot) {
            fittingSize = 0;
            fittedCars = told.size;
            tryGuess(0, off, hot);
            for (int c = 1; c <= told.size; c++) {
                for (int kind = 0; kind < PER_CAR; kind++) {
                    tryGuess(10 * c + kind, off, hot);
                }
            }
            return fittingSize;
        }

        private void tryGuess(int guess, int off, int hot) {
            bendBy(guess);
            if (doesFit(off, hot) && fittingSize < MOST) {
                fitting[fittingSize] = guess;
                fittingSize++;
            }
        }

        private void bendBy(int guess) {
            int c = guess / 10;
            bent.copyFrom(told);
            if (guess == 0) {
                return;
            }
            switch (guess % 10) {
                case 0:
                    bent.setFact(c, LEAK, 10);
                    break;
                case 1:
                    bent.setFact(c, LEAK, 20);
                    break;
                case 2:
                    bent.setFact(c, LEAK, 40);
                    break;
                case 3:
                    bent.setFact(c, HOSE, 10);
                    break;
                case 4:
                    bent.setFact(c, HOSE, 30);
                    break;
                case 5:
                    bent.setFact(c, STUCK, STUCK_ON);
                    break;
                default:
                    bent.setFact(c, STUCK, STUCK_OFF);
                    break;
            }
        }

        private boolean doesFit(int off, int hot) {
            air.start(bent);
            for (int t = 1; t <= greatestTick; t++) {
                air.advance(bent, lever);
                if (!agrees(t, off)) {
                    return false;
                }
            }
            return hot == NONE || air.hotSet(bent) == hot;
        }

        private boolean agrees(int tick, int off) {
            int front = air.measure(0, 0);
            int back = air.measure(bent.size, 0);
            for (int g = 0; g < gauges && g < MOST_GAUGES; g++) {
                if (gaugeTick[g] == tick) {
                    if (Math.abs(gaugeFront[g] - front) > off || Math.abs(gaugeBack[g] - back) > off) {
                        return false;
                    }
                }
            }
            return true;
        }

        int fittingAt(int k) {
            return k >= 0 && k < fittingSize && k < MOST ? fitting[k] : NONE;
        }

        boolean canWalk() {
            return fittedCars > 0 && fittedCars == told.size;
        }

        int findWalk(int tick) {
            hotSize = 0;
            unparted = 0;
            for (int k = 0; k < fittingSize && k < MOST; k++) {
                bendBy(fitting[k]);
                air.start(bent);
                for (int t = 0; t < tick; t++) {
                    air.advance(bent, lever);
                }
                addHotSet(air.hotSet(bent));
            }
            hasWalked = true;
            walkSet = leastWalk();
            return Integer.bitCount(walkSet);
        }

        private void addHotSet(int set) {
            for (int i = 0; i < hotSize && i < MOST; i++) {
                if (hotSets[i] == set) {
                    unparted += hotTimes[i];
                    hotTimes[i]++;
                    return;
                }
            }
            if (hotSize < MOST) {
                hotSets[hotSize] = set;
                hotTimes[hotSize] = 1;
                hotSize++;
            }
        }

        private int leastWalk() {
            int useful = usefulCars();
            int best = useful;
            for (int set = 0; set < useful; set++) {
                boolean fewer = Integer.bitCount(set) < Integer.bitCount(best);
                if (fewer && (set & ~useful) == 0 && partsAll(set)) {
                    best = set;
                }
            }
            return best;
        }

        /** The CARS at which some two sets differ; all of them together part what can be parted. */
        private int usefulCars() {
            int useful = 0;
            for (int i = 1; i < hotSize && i < MOST; i++) {
                useful |= hotSets[i] ^ hotSets[0];
            }
            return useful;
        }

        private boolean partsAll(int set) {
            for (int i = 0; i < hotSize && i < MOST; i++) {
                for (int j = 0; j < i; j++) {
                    if (((hotSets[i] ^ hotSets[j]) & set) == 0) {
                        return false;
                    }
                }
            }
            return true;
        }
    }

    /** A BOOK of days; wagons are kept as bits, wagon 0 the lowest. */
    private static final class Book {
        private static final int MOST_DAYS = 40;
        private static final int WAGONS = 40;
        private static final int MOST_IN_ROW = 16;

        int days = 0;
        private final long[] rows = new long[MOST_DAYS];
        private final long[] mends = new long[MOST_DAYS];
        private final boolean[] hots = new boolean[MOST_DAYS];
        private final int[] found = new int[WAGONS];
        private int foundSize = 0;

        /** The tape's wagons as bits; 0 if they are not as told. */
        long rowOf(Tape tape) {
            if (tape.size < 1 || tape.size > MOST_IN_ROW) {
                return 0;
            }
            long row = 0;
            for (int i = 0; i < tape.size; i++) {
                int wagon = tape.byteAt(i);
                if (!isWagon(wagon) || isIn(row, wagon)) {
                    return 0;
                }
                row |= 1L << wagon;
            }
            return row;
        }

        private static boolean isWagon(int wagon) {
            return wagon >= 0 && wagon < WAGONS;
        }

        private static boolean isIn(long row, int wagon) {
            return ((row >> wagon) & 1L) == 1L;
        }

        int addDay(long row, boolean hot) {
            if (row == 0 || days >= MOST_DAYS) {
                return NONE;
            }
            rows[days] = row;
            mends[days] = 0;
            hots[days] = hot;
            days++;
            return days - 1;
        }

        boolean mend(int wagon) {
            if (!isWagon(wagon) || days < 1 || days > MOST_DAYS) {
                return false;
            }
            mends[days - 1] |= 1L << wagon;
            return true;
        }

        int findSuspects(int d) {
            if (d < 0 || d >= days) {
                return NONE;
            }
            foundSize = 0;
            for (int wagon = 0; wagon < WAGONS; wagon++) {
                if (latestStart(wagon, d) != NONE && foundSize < WAGONS) {
                    found[foundSize] = wagon;
                    foundSize++;
                }
            }
            return foundSize;
        }

        int foundAt(int k) {
            return k >= 0 && k < foundSize && k < WAGONS ? found[k] : NONE;
        }

        /** The latest day from which on the wagon, being bad, explains the days up to d; NONE: none. */
        private int latestStart(int wagon, int d) {
            for (int start = d; start >= 0; start--) {
                if (explains(wagon, start, d)) {
                    return start;
                }
            }
            return NONE;
        }

        private boolean explains(int wagon, int start, int d) {
            boolean bad = false;
            for (int i = 0; i <= d && i < MOST_DAYS; i++) {
                if (i == start) {
                    bad = true;
                }
                if (hots[i] != (bad && isIn(rows[i], wagon))) {
                    return false;
                }
                if (isIn(mends[i], wagon)) {
                    bad = false;
                }
            }
            return true;
        }

        private boolean isBadStill(int wagon, int start) {
            for (int i = Math.max(0, start); i < days && i < MOST_DAYS; i++) {
                if (isIn(mends[i], wagon)) {
                    return false;
                }
            }
            return true;
        }

        /** Whether a day with such a row would be HOT by all SUSPECTS (1), by none (0), by some (2). */
        int foresee(long row) {
            if (row == 0 || days == 0) {
                return NONE;
            }
            int all = 0;
            int hot = 0;
            for (int wagon = 0; wagon < WAGONS; wagon++) {
                int start = latestStart(wagon, days - 1);
                if (start != NONE) {
                    all++;
                    if (isIn(row, wagon) && isBadStill(wagon, start)) {
                        hot++;
                    }
                }
            }
            if (all == 0) {
                return NONE;
            }
            return hot == 0 ? 0 : hot == all ? 1 : 2;
        }
    }
}
