import java.util.ArrayList;

/**
 * A desk that seeks what drifts at sea: tales of where a lost thing was, their drift by the winds
 * and streams of a text, and the proofs (searches and clues) that weigh them by exact odds.
 */
public final class DriftDesk {
    /** There is none. */
    public static final int NONE = -1;

    private static final int NO_SUCH_FLOW = -100;

    private static final int HOURS = 72;
    private static final int SIDE = 80;
    private static final int CELL_SIDE = 10;
    private static final int CELLS_IN_ROW = 8;
    private static final int CELLS = 64;
    private static final int QUARTERS = 4;
    private static final int KINDS = 4;
    private static final int SORTS = 2;
    private static final int TOP_EFFORT = 20;
    private static final int TOP_SPLIT = 40;
    private static final int HUNDRED = 100;
    private static final int TEN_THOUSAND = 10000;

    private static final int TOP_WEIGHT = 1000;
    private static final int TOP_TALES = 40;
    private static final int TOP_PROOFS = 60;
    private static final int TOP_STANDING = 6;
    private static final int TOP_WIDTH_SEEN = 80;
    private static final int TOP_SPEED = 100;
    private static final int MINUTES_AN_HOUR = 60;
    private static final int BYTES_A_FEED = 20;

    private static final int ADRIFT = 0;
    private static final int ASHORE = 1;
    private static final int GONE = 2;

    private final Tape tape;
    private final SeaReader reader;
    private final ArrayList<Tale> tales;
    private final ArrayList<Proof> proofs;
    private final Split best;
    private final long[] cellOdds;
    private Sea present;
    private Sea spare;
    private int standing;

    public DriftDesk() {
        tape = new Tape();
        reader = new SeaReader(tape);
        tales = new ArrayList<>();
        proofs = new ArrayList<>();
        best = new Split();
        cellOdds = new long[CELLS];
        present = new Sea();
        spare = new Sea();
    }

    public int feed(int a, int b, int c, int d, int e) {
        if (!tape.hasRoom(BYTES_A_FEED)) {
            return NONE;
        }
        tape.add(a);
        tape.add(b);
        tape.add(c);
        tape.add(d);
        tape.add(e);
        return tape.size();
    }

    public int end(int n) {
        if (!within(n, 0, tape.size())) {
            return NONE;
        }
        tape.cut(n);
        return n;
    }

    public int sea() {
        boolean right = reader.readInto(spare);
        tape.cut(0);
        if (!right) {
            return NONE;
        }
        Sea old = present;
        present = spare;
        spare = old;
        for (int i = 0; i < tales.size(); i++) {
            tales.get(i).drift(present);
        }
        return present.lines();
    }

    public int fault(int what) {
        switch (what) {
            case 0:
                return reader.foundFault();
            case 1:
                return reader.foundAt();
            default:
                return NONE;
        }
    }

    public int wind(int hour, boolean y) {
        return isHour(hour) ? present.windOf(hour, y) : NO_SUCH_FLOW;
    }

    public int stream(int quarter, int hour, boolean y) {
        boolean known = isQuarter(quarter) && isHour(hour);
        return known ? present.streamOf(quarter, hour, y) : NO_SUCH_FLOW;
    }

    public int miss(int sort, int effort) {
        return isMeans(sort, effort, TOP_EFFORT) ? present.missOf(sort, effort) : NONE;
    }

    public int land(int cell) {
        if (!isCell(cell)) {
            return NONE;
        }
        return present.hasLand(cell) ? 1 : 0;
    }

    public int tale(int kind, int x, int y, int hour, int weight) {
        boolean possible = isKind(kind) && isPoint(x, y) && isHour(hour)
                && within(weight, 1, TOP_WEIGHT);
        if (!possible || tales.size() >= TOP_TALES) {
            return NONE;
        }
        Tale told = new Tale(kind, x, y, hour, weight);
        told.drift(present);
        tales.add(told);
        return tales.size() - 1;
    }

    public int place(int tale, int moment) {
        boolean known = isTale(tale) && isMoment(moment);
        return known ? tales.get(tale).pointAt(moment) : NONE;
    }

    public int state(int tale, int moment) {
        boolean known = isTale(tale) && isMoment(moment);
        return known ? tales.get(tale).stateAt(moment) : NONE;
    }

    public int search(int moment, int a, int b, int c, int d, int sort, int effort) {
        boolean possible = isMoment(moment) && isSpan(a, b) && isSpan(c, d)
                && isMeans(sort, effort, TOP_EFFORT);
        if (!possible || !hasRoomForProof()) {
            return NONE;
        }
        return addProof(new Search(moment, a, b, c, d, sort, effort));
    }

    public int clue(int moment, int x, int y, int r, int l) {
        boolean possible = isMoment(moment) && isPoint(x, y) && within(r, 0, SIDE)
                && within(l, 0, HUNDRED);
        if (!possible || !hasRoomForProof()) {
            return NONE;
        }
        return addProof(new Clue(moment, x, y, r, l));
    }

    public boolean back(int proof) {
        if (!within(proof, 0, proofs.size() - 1) || !proofs.get(proof).isStanding()) {
            return false;
        }
        proofs.get(proof).takeBack();
        standing--;
        return true;
    }

    public long odds(int tale) {
        return isTale(tale) ? oddsOf(tales.get(tale)) : NONE;
    }

    public long share(int cell, int moment, boolean denominator) {
        if (!isCell(cell) || !isMoment(moment)) {
            return NONE;
        }
        sumByCell(moment, false);
        long part = cellOdds[cell];
        long whole = allOdds();
        long common = greatestDivisor(whole, part);
        if (common == 0) {
            return denominator ? 1 : 0;
        }
        return denominator ? whole / common : part / common;
    }

    public int likeliest(int moment) {
        if (!isMoment(moment)) {
            return NONE;
        }
        sumByCell(moment, false);
        int found = NONE;
        long most = 0;
        for (int cell = 0; cell < CELLS; cell++) {
            if (cellOdds[cell] > most) {
                most = cellOdds[cell];
                found = cell;
            }
        }
        return found;
    }

    public long seen(int moment, int sort, int effort) {
        if (!isMoment(moment) || !isMeans(sort, effort, TOP_SPLIT)) {
            return NONE;
        }
        sumByCell(moment, true);
        best.weigh(cellOdds, present, sort, effort);
        return best.mostSeen();
    }

    public int split(int moment, int sort, int effort, int cell) {
        if (!isMoment(moment) || !isMeans(sort, effort, TOP_SPLIT) || !isCell(cell)) {
            return NONE;
        }
        sumByCell(moment, true);
        best.weigh(cellOdds, present, sort, effort);
        return best.givenTo(cell);
    }

    public int left() {
        long weights = 0;
        for (int i = 0; i < tales.size(); i++) {
            weights += tales.get(i).weight();
        }
        if (weights <= 0) {
            return TEN_THOUSAND;
        }
        // The 10000 is used up by the proofs first: all odds times it would not fit into a long.
        long scale = TEN_THOUSAND;
        for (int i = 0; i < standing; i++) {
            if (scale > 1) {
                scale /= HUNDRED;
            } else {
                weights *= HUNDRED;
            }
        }
        return (int) (allOdds() * scale / weights);
    }

    public int tracks(int width, int height, int seen, int speed) {
        boolean possible = within(width, 1, CELLS_IN_ROW) && within(height, 1, CELLS_IN_ROW)
                && within(seen, 1, TOP_WIDTH_SEEN) && within(speed, 1, TOP_SPEED);
        if (!possible) {
            return NONE;
        }
        int legs = (height * CELL_SIDE + seen - 1) / seen;
        int length = legs * width * CELL_SIDE + (legs - 1) * seen;
        return (length * MINUTES_AN_HOUR + speed - 1) / speed;
    }

    public int about(int what) {
        switch (what) {
            case 0:
                return present.lines();
            case 1:
                return tales.size();
            case 2:
                return proofs.size();
            case 3:
                return standing;
            case 4:
                return tape.size();
            default:
                return NONE;
        }
    }

    private boolean isTale(int number) {
        return within(number, 0, tales.size() - 1);
    }

    private boolean hasRoomForProof() {
        return standing < TOP_STANDING && proofs.size() < TOP_PROOFS;
    }

    private int addProof(Proof proof) {
        proofs.add(proof);
        standing++;
        return proofs.size() - 1;
    }

    private long oddsOf(Tale tale) {
        long product = tale.weight();
        for (int i = 0; i < proofs.size(); i++) {
            Proof proof = proofs.get(i);
            if (proof.isStanding()) {
                product *= proof.weighing(tale, present);
            }
        }
        return product;
    }

    private long allOdds() {
        long sum = 0;
        for (int i = 0; i < tales.size(); i++) {
            sum += oddsOf(tales.get(i));
        }
        return sum;
    }

    private void sumByCell(int moment, boolean adriftAlone) {
        for (int cell = 0; cell < CELLS; cell++) {
            cellOdds[cell] = 0;
        }
        for (int i = 0; i < tales.size(); i++) {
            Tale tale = tales.get(i);
            int cell = tale.cellAt(moment);
            boolean counts = !adriftAlone || tale.stateAt(moment) == ADRIFT;
            if (counts && isCell(cell)) {
                cellOdds[cell] += oddsOf(tale);
            }
        }
    }

    private static boolean within(int value, int least, int most) {
        return value >= least && value <= most;
    }

    private static boolean isHour(int hour) {
        return hour >= 0 && hour < HOURS;
    }

    private static boolean isMoment(int moment) {
        return moment >= 0 && moment <= HOURS;
    }

    private static boolean isPoint(int x, int y) {
        return x >= 0 && x < SIDE && y >= 0 && y < SIDE;
    }

    private static boolean isCell(int cell) {
        return cell >= 0 && cell < CELLS;
    }

    private static boolean isKind(int kind) {
        return kind >= 0 && kind < KINDS;
    }

    private static boolean isQuarter(int quarter) {
        return quarter >= 0 && quarter < QUARTERS;
    }

    private static boolean isSpan(int first, int last) {
        return first >= 0 && first <= last && last < CELLS_IN_ROW;
    }

    private static boolean isMeans(int sort, int effort, int most) {
        return sort >= 0 && sort < SORTS && effort >= 0 && effort <= most;
    }

    private static int cellOf(int x, int y) {
        return y / CELL_SIDE * CELLS_IN_ROW + x / CELL_SIDE;
    }

    private static int quarterOf(int x, int y) {
        return (y >= SIDE / 2 ? 2 : 0) + (x >= SIDE / 2 ? 1 : 0);
    }

    private static long greatestDivisor(long a, long b) {
        // Two longs need fewer than a hundred divisions.
        for (int i = 0; b != 0 && i < HUNDRED; i++) {
            long rest = a % b;
            a = b;
            b = rest;
        }
        return a;
    }

    /** The bytes that have been fed and not yet read as a SEA. */
    private static final class Tape {
        static final int NOTHING = -1;
        private static final int ROOM = 1000;

        private final byte[] bytes = new byte[ROOM];
        private int size;

        int size() {
            return size;
        }

        boolean hasRoom(int more) {
            return size + more <= ROOM;
        }

        void add(int number) {
            for (int shift = 24; shift >= 0 && size < ROOM; shift -= 8) {
                bytes[size] = (byte) (number >> shift);
                size++;
            }
        }

        void cut(int newSize) {
            if (newSize >= 0 && newSize <= size) {
                size = newSize;
            }
        }

        int byteAt(int index) {
            return index >= 0 && index < size ? bytes[index] & 255 : NOTHING;
        }
    }

    /** The TOKENS of a tape, one after the other. */
    private static final class Tokens {
        static final int NO_TOKEN = 0;
        static final int THE_END = 1;
        static final int WORD = 2;
        static final int NUMBER = 3;
        static final int SEMICOLON = 4;
        private static final int LETTERS_AT_MOST = 8;
        private static final int DIGITS_AT_MOST = 3;

        private final Tape tape;
        private int kind;
        private int start;
        private int behind;
        private int value;

        Tokens(Tape tape) {
            this.tape = tape;
        }

        int kind() {
            return kind;
        }

        int start() {
            return start;
        }

        int value() {
            return value;
        }

        void rewind() {
            behind = 0;
        }

        void readNext() {
            skipBlanks();
            start = behind;
            int first = tape.byteAt(start);
            if (first == Tape.NOTHING) {
                kind = THE_END;
            } else if (isLetter(first)) {
                readWord();
            } else if (isDigit(first) || first == '-') {
                readNumber();
            } else {
                kind = first == ';' ? SEMICOLON : NO_TOKEN;
                behind++;
            }
        }

        /** Whether the token, a word, has just these letters. */
        boolean spells(String word) {
            boolean same = behind - start == word.length();
            for (int i = 0; same && i < word.length(); i++) {
                same = tape.byteAt(start + i) == word.charAt(i);
            }
            return same;
        }

        private void skipBlanks() {
            while (behind < tape.size() && isBlank(tape.byteAt(behind))) {
                behind++;
            }
        }

        private void readWord() {
            while (behind < tape.size() && isLetter(tape.byteAt(behind))) {
                behind++;
            }
            kind = behind - start <= LETTERS_AT_MOST ? WORD : NO_TOKEN;
        }

        private void readNumber() {
            boolean below = tape.byteAt(start) == '-';
            int firstDigit = below ? start + 1 : start;
            int size = 0;
            behind = firstDigit;
            while (behind < tape.size() && isDigit(tape.byteAt(behind))) {
                // A run of too many digits is no token, so its value may well wrap around.
                size = size * 10 + tape.byteAt(behind) - '0';
                behind++;
            }
            int digits = behind - firstDigit;
            boolean right = digits >= 1 && digits <= DIGITS_AT_MOST
                    && !isLetter(tape.byteAt(behind));
            kind = right ? NUMBER : NO_TOKEN;
            value = below ? -size : size;
        }

        private static boolean isBlank(int sign) {
            return sign == 32 || sign == 10;
        }

        private static boolean isLetter(int sign) {
            return sign >= 'a' && sign <= 'z';
        }

        private static boolean isDigit(int sign) {
            return sign >= '0' && sign <= '9';
        }
    }

    /** Reads the lines of a SEA from the tape, up to the first FAULT. */
    private static final class SeaReader {
        private static final int TOP_LINES = 60;

        private static final int ABSENT = 1;
        private static final int MISPLACED = 2;
        private static final int IMPOSSIBLE = 3;
        private static final int TOLD_ALREADY = 4;
        private static final int MISS_OUT_OF_ORDER = 5;

        private static final int WIND = 0;
        private static final int STREAM = 1;
        private static final int LEE = 2;
        private static final int LAND = 3;
        private static final int MISS = 4;

        private static final int NUMBERS_AT_MOST = 4;
        private static final int[] NUMBERS = {3, 4, 2, 2, 3};
        /** How many of a line's numbers tell which it is. */
        private static final int[] TELLING = {1, 2, 1, 2, 2};
        /** Four numbers for each sort of line, in the order above. */
        private static final int[] LEAST = {
            0, -30, -30, 0,
            0, 0, -30, -30,
            0, 0, 0, 0,
            0, 0, 0, 0,
            0, 1, 0, 0};
        private static final int[] MOST = {
            71, 30, 30, 0,
            3, 71, 30, 30,
            3, 100, 0, 0,
            7, 7, 0, 0,
            1, 20, 100, 0};

        private final Tokens tokens;
        private final int[] numbers = new int[NUMBERS_AT_MOST];
        private int fault;
        private int faultAt = NONE;

        SeaReader(Tape tape) {
            tokens = new Tokens(tape);
        }

        int foundFault() {
            return fault;
        }

        int foundAt() {
            return faultAt;
        }

        /** Whether there is no FAULT; else the fresh SEA is of no use. */
        boolean readInto(Sea fresh) {
            fault = 0;
            faultAt = NONE;
            fresh.clear();
            tokens.rewind();
            tokens.readNext();
            for (int line = 0; line <= TOP_LINES && fault == 0; line++) {
                if (tokens.kind() == Tokens.THE_END) {
                    fresh.settle();
                    return true;
                }
                readLine(fresh);
                tokens.readNext();
            }
            return false;
        }

        private void readLine(Sea fresh) {
            if (!isThere(Tokens.WORD)) {
                return;
            }
            int sort = sortOfWord();
            if (sort == NONE || fresh.lines() >= TOP_LINES) {
                note(MISPLACED);
                return;
            }
            for (int i = 0; i < NUMBERS[sort] && fault == 0; i++) {
                readNumber(fresh, sort, i);
            }
            if (fault == 0) {
                tokens.readNext();
            }
            if (fault == 0 && isThere(Tokens.SEMICOLON)) {
                tell(fresh, sort);
            }
        }

        private int sortOfWord() {
            return tokens.spells("wind") ? WIND
                    : tokens.spells("stream") ? STREAM
                    : tokens.spells("lee") ? LEE
                    : tokens.spells("land") ? LAND
                    : tokens.spells("miss") ? MISS : NONE;
        }

        private void readNumber(Sea fresh, int sort, int i) {
            tokens.readNext();
            if (!isThere(Tokens.NUMBER)) {
                return;
            }
            int limits = sort * NUMBERS_AT_MOST + i;
            numbers[i] = tokens.value();
            if (!within(numbers[i], LEAST[limits], MOST[limits])) {
                note(IMPOSSIBLE);
            } else if (i == TELLING[sort] - 1 && isTold(fresh, sort)) {
                note(TOLD_ALREADY);
            } else if (sort == MISS && i == 2
                    && !fresh.missFits(numbers[0], numbers[1], numbers[2])) {
                note(MISS_OUT_OF_ORDER);
            }
        }

        /** Notes a FAULT if the token is not of this kind: the end is no token at all. */
        private boolean isThere(int kind) {
            int found = tokens.kind();
            if (found == Tokens.NO_TOKEN || found == Tokens.THE_END) {
                note(ABSENT);
            } else if (found != kind) {
                note(MISPLACED);
            }
            return found == kind;
        }

        private void note(int which) {
            fault = which;
            faultAt = tokens.start();
        }

        private boolean isTold(Sea fresh, int sort) {
            switch (sort) {
                case WIND:
                    return fresh.isWindTold(numbers[0]);
                case STREAM:
                    return fresh.isStreamTold(numbers[0], numbers[1]);
                case LEE:
                    return fresh.isLeeTold(numbers[0]);
                case LAND:
                    return fresh.hasLand(numbers[1] * CELLS_IN_ROW + numbers[0]);
                default:
                    return fresh.isMissTold(numbers[0], numbers[1]);
            }
        }

        private void tell(Sea fresh, int sort) {
            switch (sort) {
                case WIND:
                    fresh.tellWind(numbers[0], numbers[1], numbers[2]);
                    break;
                case STREAM:
                    fresh.tellStream(numbers[0], numbers[1], numbers[2], numbers[3]);
                    break;
                case LEE:
                    fresh.tellLee(numbers[0], numbers[1]);
                    break;
                case LAND:
                    fresh.tellLand(numbers[1] * CELLS_IN_ROW + numbers[0]);
                    break;
                default:
                    fresh.tellMiss(numbers[0], numbers[1], numbers[2]);
                    break;
            }
            fresh.countLine();
        }
    }

    /** A wind or a stream: its step in each hour. */
    private static final class Flow {
        private final byte[] stepsX = new byte[HOURS];
        private final byte[] stepsY = new byte[HOURS];
        private final boolean[] told = new boolean[HOURS];

        void clear() {
            for (int hour = 0; hour < HOURS; hour++) {
                told[hour] = false;
                stepsX[hour] = 0;
                stepsY[hour] = 0;
            }
        }

        boolean isTold(int hour) {
            return hour >= 0 && hour < HOURS && told[hour];
        }

        void tell(int hour, int x, int y) {
            if (isHour(hour)) {
                told[hour] = true;
                stepsX[hour] = (byte) x;
                stepsY[hour] = (byte) y;
            }
        }

        /** Fills the hours that are not told from those ahead of them. */
        void settle() {
            for (int hour = 1; hour < HOURS; hour++) {
                if (!told[hour]) {
                    stepsX[hour] = stepsX[hour - 1];
                    stepsY[hour] = stepsY[hour - 1];
                }
            }
        }

        int stepIn(int hour, boolean y) {
            if (!isHour(hour)) {
                return 0;
            }
            return y ? stepsY[hour] : stepsX[hour];
        }
    }

    /** What a text tells: first line by line, and once it is settled, without gaps. */
    private static final class Sea {
        private static final int UNTOLD_LEE = 3;
        private static final int EFFORTS = TOP_EFFORT + 1;

        private final Flow winds = new Flow();
        private final Flow[] streams = new Flow[QUARTERS];
        private final int[] lees = new int[KINDS];
        private final boolean[] lands = new boolean[CELLS];
        private final int[] misses = new int[SORTS * EFFORTS];
        private int lines;

        Sea() {
            for (int quarter = 0; quarter < QUARTERS; quarter++) {
                streams[quarter] = new Flow();
            }
            for (int kind = 0; kind < KINDS; kind++) {
                lees[kind] = UNTOLD_LEE;
            }
            for (int i = 0; i < misses.length; i++) {
                misses[i] = HUNDRED;
            }
        }

        void clear() {
            lines = 0;
            winds.clear();
            for (int quarter = 0; quarter < QUARTERS; quarter++) {
                streams[quarter].clear();
            }
            for (int kind = 0; kind < KINDS; kind++) {
                lees[kind] = NONE;
            }
            for (int cell = 0; cell < CELLS; cell++) {
                lands[cell] = false;
            }
            for (int i = 0; i < misses.length; i++) {
                misses[i] = NONE;
            }
        }

        void settle() {
            winds.settle();
            for (int quarter = 0; quarter < QUARTERS; quarter++) {
                streams[quarter].settle();
            }
            for (int kind = 0; kind < KINDS; kind++) {
                if (lees[kind] == NONE) {
                    lees[kind] = UNTOLD_LEE;
                }
            }
            for (int i = 0; i < misses.length; i++) {
                if (misses[i] == NONE) {
                    misses[i] = i % EFFORTS == 0 ? HUNDRED : misses[i - 1];
                }
            }
        }

        int lines() {
            return lines;
        }

        void countLine() {
            lines++;
        }

        boolean isWindTold(int hour) {
            return winds.isTold(hour);
        }

        void tellWind(int hour, int x, int y) {
            winds.tell(hour, x, y);
        }

        int windOf(int hour, boolean y) {
            return winds.stepIn(hour, y);
        }

        boolean isStreamTold(int quarter, int hour) {
            return isQuarter(quarter) && streams[quarter].isTold(hour);
        }

        void tellStream(int quarter, int hour, int x, int y) {
            if (isQuarter(quarter)) {
                streams[quarter].tell(hour, x, y);
            }
        }

        int streamOf(int quarter, int hour, boolean y) {
            return isQuarter(quarter) ? streams[quarter].stepIn(hour, y) : 0;
        }

        boolean isLeeTold(int kind) {
            return isKind(kind) && lees[kind] != NONE;
        }

        void tellLee(int kind, int percent) {
            if (isKind(kind)) {
                lees[kind] = percent;
            }
        }

        boolean hasLand(int cell) {
            return isCell(cell) && lands[cell];
        }

        void tellLand(int cell) {
            if (isCell(cell)) {
                lands[cell] = true;
            }
        }

        boolean isMissTold(int sort, int effort) {
            return isMeans(sort, effort, TOP_EFFORT) && misses[sort * EFFORTS + effort] != NONE;
        }

        void tellMiss(int sort, int effort, int percent) {
            if (isMeans(sort, effort, TOP_EFFORT)) {
                misses[sort * EFFORTS + effort] = percent;
            }
        }

        int missOf(int sort, int effort) {
            return isMeans(sort, effort, TOP_EFFORT) ? misses[sort * EFFORTS + effort] : HUNDRED;
        }

        /** Whether more effort misses no more, by what is told so far. */
        boolean missFits(int sort, int effort, int percent) {
            for (int less = 1; less < effort; less++) {
                if (isMissTold(sort, less) && percent > missOf(sort, less)) {
                    return false;
                }
            }
            for (int more = effort + 1; more <= TOP_EFFORT; more++) {
                if (isMissTold(sort, more) && percent < missOf(sort, more)) {
                    return false;
                }
            }
            return true;
        }

        /** What a thing of a kind goes in x or y in an hour that it begins in a quarter. */
        int stepOf(int kind, int quarter, int hour, boolean y) {
            int lee = isKind(kind) ? lees[kind] : 0;
            return streamOf(quarter, hour, y) + windOf(hour, y) * lee / HUNDRED;
        }
    }

    /** A TALE, with where and what it is at each moment by the SEA that it drifted on last. */
    private static final class Tale {
        private static final int A_STATE = 10000;

        private final int kind;
        private final int firstX;
        private final int firstY;
        private final int hour;
        private final int weight;
        /** For each moment the state * 10000 + y * 100 + x. */
        private final short[] marks = new short[HOURS + 1];

        Tale(int kind, int x, int y, int hour, int weight) {
            this.kind = kind;
            this.firstX = x;
            this.firstY = y;
            this.hour = hour;
            this.weight = weight;
        }

        int weight() {
            return weight;
        }

        void drift(Sea sea) {
            int x = firstX;
            int y = firstY;
            int what = ADRIFT;
            for (int moment = 0; moment <= HOURS; moment++) {
                if (moment > hour && what == ADRIFT) {
                    int quarter = quarterOf(x, y);
                    int nextX = x + sea.stepOf(kind, quarter, moment - 1, false);
                    int nextY = y + sea.stepOf(kind, quarter, moment - 1, true);
                    if (isPoint(nextX, nextY)) {
                        x = nextX;
                        y = nextY;
                    } else {
                        what = GONE;
                    }
                }
                if (moment >= hour && what == ADRIFT && sea.hasLand(cellOf(x, y))) {
                    what = ASHORE;
                }
                marks[moment] = (short) (what * A_STATE + y * HUNDRED + x);
            }
        }

        int stateAt(int moment) {
            return isMoment(moment) ? marks[moment] / A_STATE : NONE;
        }

        int pointAt(int moment) {
            boolean somewhere = isMoment(moment) && marks[moment] / A_STATE != GONE;
            return somewhere ? marks[moment] % A_STATE : NONE;
        }

        int cellAt(int moment) {
            int point = pointAt(moment);
            return point == NONE ? NONE : cellOf(point % HUNDRED, point / HUNDRED);
        }
    }

    /** What weighs the tales, until it is taken back. */
    private abstract static class Proof {
        private boolean takenBack;

        boolean isStanding() {
            return !takenBack;
        }

        void takeBack() {
            takenBack = true;
        }

        abstract int weighing(Tale tale, Sea sea);
    }

    /** A SEARCH of a field that found nothing. */
    private static final class Search extends Proof {
        private final int moment;
        private final int firstColumn;
        private final int lastColumn;
        private final int firstRow;
        private final int lastRow;
        private final int sort;
        private final int effort;

        Search(int moment, int a, int b, int c, int d, int sort, int effort) {
            this.moment = moment;
            this.firstColumn = a;
            this.lastColumn = b;
            this.firstRow = c;
            this.lastRow = d;
            this.sort = sort;
            this.effort = effort;
        }

        int weighing(Tale tale, Sea sea) {
            boolean searched = tale.stateAt(moment) == ADRIFT && hasCell(tale.cellAt(moment));
            return searched ? sea.missOf(sort, effort) : HUNDRED;
        }

        private boolean hasCell(int cell) {
            return isCell(cell)
                    && within(cell % CELLS_IN_ROW, firstColumn, lastColumn)
                    && within(cell / CELLS_IN_ROW, firstRow, lastRow);
        }
    }

    /** A CLUE: things were found at a point. */
    private static final class Clue extends Proof {
        private final int moment;
        private final int x;
        private final int y;
        private final int reach;
        private final int percentElsewhere;

        Clue(int moment, int x, int y, int r, int l) {
            this.moment = moment;
            this.x = x;
            this.y = y;
            this.reach = r;
            this.percentElsewhere = l;
        }

        int weighing(Tale tale, Sea sea) {
            int point = tale.pointAt(moment);
            boolean near = point != NONE
                    && Math.abs(point % HUNDRED - x) <= reach
                    && Math.abs(point / HUNDRED - y) <= reach;
            return near ? HUNDRED : percentElsewhere;
        }
    }

    /** The SPLIT of an effort by which most is SEEN. */
    private static final class Split {
        private static final int ROW = TOP_SPLIT + 1;

        /** The cells that have something to show, in their order, and how much. */
        private final int[] cells = new int[TOP_TALES];
        private final long[] odds = new long[TOP_TALES];
        /** The efforts by which a cell shows more than by any less, and what each finds of 100. */
        private final int[] steps = new int[TOP_EFFORT + 1];
        private final int[] found = new int[TOP_EFFORT + 1];
        /** By cell and effort: the most that this cell and those behind it can show. */
        private final long[] most = new long[(TOP_TALES + 1) * ROW];
        private int cellCount;
        private int stepCount;
        private int effort;

        void weigh(long[] cellOdds, Sea sea, int sort, int effortInAll) {
            effort = Math.max(0, Math.min(effortInAll, TOP_SPLIT));
            listCells(cellOdds);
            listSteps(sea, sort);
            for (int n = 0; n <= effort; n++) {
                most[cellCount * ROW + n] = 0;
            }
            for (int i = cellCount - 1; i >= 0; i--) {
                for (int n = 0; n <= effort; n++) {
                    most[i * ROW + n] = mostFrom(i, n);
                }
            }
        }

        long mostSeen() {
            return most[effort];
        }

        int givenTo(int cell) {
            int rest = leastForMost();
            for (int i = 0; i < cellCount; i++) {
                int given = leastGift(i, rest);
                if (cells[i] == cell) {
                    return given;
                }
                rest -= given;
            }
            return 0;
        }

        private void listCells(long[] cellOdds) {
            cellCount = 0;
            for (int cell = 0; cell < cellOdds.length && cellCount < TOP_TALES; cell++) {
                if (cellOdds[cell] > 0) {
                    cells[cellCount] = cell;
                    odds[cellCount] = cellOdds[cell];
                    cellCount++;
                }
            }
        }

        // BEST has the least effort, so it never gives more than the least that shows as much.
        private void listSteps(Sea sea, int sort) {
            steps[0] = 0;
            found[0] = HUNDRED - sea.missOf(sort, 0);
            stepCount = 1;
            for (int e = 1; e <= TOP_EFFORT; e++) {
                int shown = HUNDRED - sea.missOf(sort, e);
                if (shown > found[stepCount - 1]) {
                    steps[stepCount] = e;
                    found[stepCount] = shown;
                    stepCount++;
                }
            }
        }

        private long mostFrom(int i, int n) {
            long top = 0;
            for (int step = 0; step < stepCount && steps[step] <= n; step++) {
                top = Math.max(top, shownBy(i, n, step));
            }
            return top;
        }

        private long shownBy(int i, int n, int step) {
            return odds[i] * found[step] + most[(i + 1) * ROW + n - steps[step]];
        }

        private int leastForMost() {
            int n = 0;
            while (n < effort && most[n] != most[effort]) {
                n++;
            }
            return n;
        }

        private int leastGift(int i, int rest) {
            for (int step = 0; step < stepCount && steps[step] <= rest; step++) {
                if (shownBy(i, rest, step) == most[i * ROW + rest]) {
                    return steps[step];
                }
            }
            return 0;
        }
    }
}
