import java.util.Arrays;

/**
 * Books that speak: titles read aloud by readers, copies that go by post to listeners and back,
 * house rules told in a text, requests served by them day by day.
 *
 * Everything that an object needs is made in its constructor; no later call makes anything.
 */
public final class SpokenBooks {
    public static final int BAD = -1, STATE = -2, FULL = -3, NONE = -4;

    private static final int READERS = 6, TITLES = 12, SIDES = 8, COPIES = 24;
    private static final int LISTENERS = 10, REQUESTS = 30, ERRORS = 40, SHEETS = 4;
    private static final int TONGUES = 4, KINS = 8, LANES = 3;
    private static final int TAPE = 200, CELLS = 60, MOST_MINUTES = 90, LAST_DAY = 99, MOST_HOURS = 40;

    /* Where a copy is. */
    private static final int IN_HOUSE = 0, WAY_OUT = 1, WITH = 2, WAY_BACK = 3, LOST = 4, WORN_OUT = 5;

    /* What became of a request. */
    private static final int WAITING = 0, SERVED = 1, TAKEN_BACK = 2;

    /* The faults of a text. */
    private static final int NO_TOKEN = 1, MISPLACED = 2, OUT_OF_BOUNDS = 3, TWICE = 4;

    /* The faults that the machine would find in a sheet, as they are answered. */
    private static final int NULL_FAULT = -11, INDEX_FAULT = -12, CAST_FAULT = -13, SIZE_FAULT = -14;

    /* The rules that are one number, then the two others that begin a line. */
    private static final int LOAN = 0, DAYS = 1, LAG = 2, LIFE = 3, AGAIN = 4, QUEUE = 5, RIGHT = 6;
    private static final int NUMBER_RULES = 5, LINE_WORDS = 7, KEYS = 5, WORDS = 12;
    private static final int[] LEAST = {1, 1, 0, 1, 0};
    private static final int[] MOST = {6, 60, 9, 99, 99};
    private static final int[] UNTOLD = {2, 14, 2, 20, 0};
    private static final int MOST_FIGURES = 3, LAST_RIGHT = 999;

    /* All words of a text in their order, each in a slot of six signs, the keys behind the line's words. */
    private static final int SLOT = 6;
    private static final String SPELLED =
        "loan  days  lag   life  again queue right waitedhad   late  likes number";

    /* The keys; a key of which the least comes first bears ten more. */
    private static final int WAITED = 0, HAD = 1, LATE = 2, LIKES = 3;
    private static final int LEAST_FIRST = 10;

    private final Tape tape = new Tape();
    private final House house = new House();
    private final Titles titles = house.titles;
    private final Copies copies = house.copies;
    private final Listeners listeners = house.listeners;
    private final Requests requests = house.requests;
    private final Errors errors = new Errors();
    private final Parcels pairing = new Parcels();
    private final Program reading = new Program();
    private final Sheets papers = new Sheets();
    private Rules draft = new Rules();

    public SpokenBooks() {
    }

    // ---- rules

    public int feed(long v) {
        return tape.append(v);
    }

    public int end(int n) {
        return tape.keep(n);
    }

    public int rules() {
        int lines = tape.read(draft);
        if (lines >= 0) {
            Rules before = house.rules;
            house.rules = draft;
            draft = before;
        }
        return lines;
    }

    public int fault() {
        return tape.fault;
    }

    public int rule(int what) {
        Rules rules = house.rules;
        if (within(what, 0, NUMBER_RULES - 1)) {
            return rules.numbers[what];
        }
        if (what == 5) {
            return rules.keyCount;
        }
        if (within(what, 10, 9 + rules.keyCount)) {
            return rules.keys[what - 10];
        }
        if (within(what, 20, 19 + TITLES)) {
            return rules.rightFrom[what - 20];
        }
        if (within(what, 40, 39 + TITLES)) {
            return rules.rightTo[what - 40];
        }
        return BAD;
    }

    // ---- titles, copies

    public int reader(int tongue) {
        if (!within(tongue, 0, TONGUES - 1)) {
            return BAD;
        }
        return titles.addReader(tongue);
    }

    public int title(int tongue, int kin, int reader) {
        if (!within(tongue, 0, TONGUES - 1) || !within(kin, 0, KINS - 1) || !titles.hasReader(reader)
                || titles.readerTongue[reader] != tongue) {
            return BAD;
        }
        return titles.add(tongue, kin, reader);
    }

    public int side(int t, int minutes) {
        if (!titles.has(t) || !within(minutes, 1, MOST_MINUTES)) {
            return BAD;
        }
        return titles.addSide(t, minutes);
    }

    public int titleOf(int t, int what) {
        if (!titles.has(t)) {
            return BAD;
        }
        switch (what) {
            case 0: return titles.tongue[t];
            case 1: return titles.kin[t];
            case 2: return titles.reader[t];
            case 3: return titles.sideCount[t];
            case 4: return titles.minutesOf(t);
            case 5: return copies.ofTitle(t);
            case 6: return copies.inHouse(t);
            case 7: return requests.waitingFor(t);
            case 8: return errors.ofTitle(t);
            default: return titles.hasSide(t, what - 10) ? titles.minutes[t * SIDES + what - 10] : BAD;
        }
    }

    public int copy(int t) {
        if (!titles.has(t)) {
            return BAD;
        }
        if (titles.sideCount[t] == 0) {
            return STATE;
        }
        return copies.add(t, house.today);
    }

    public int copyOf(int c, int what) {
        if (!copies.has(c)) {
            return BAD;
        }
        switch (what) {
            case 0: return copies.title[c];
            case 1: return copies.where[c];
            case 2: return copies.listener[c];
            case 3: return copies.plays[c];
            case 4: return copies.since[c];
            default: return BAD;
        }
    }

    public int back(int c) {
        if (!copies.has(c)) {
            return BAD;
        }
        if (copies.where[c] != WITH) {
            return STATE;
        }
        return house.sendBack(c);
    }

    public int lose(int c) {
        if (!copies.has(c)) {
            return BAD;
        }
        int was = copies.where[c];
        if (!within(was, WAY_OUT, WAY_BACK)) {
            return STATE;
        }
        copies.put(c, LOST, NONE, house.today);
        return was;
    }

    // ---- listeners, requests

    public int listener(int tongues, int likes) {
        if (!within(tongues, 1, (1 << TONGUES) - 1) || !within(likes, 0, (1 << KINS) - 1)) {
            return BAD;
        }
        return listeners.add(tongues, likes);
    }

    public int told(int l, int what) {
        if (!listeners.has(l)) {
            return BAD;
        }
        switch (what) {
            case 0: return listeners.tongues[l];
            case 1: return listeners.likes[l];
            case 2: return copies.held(l);
            case 3: return copies.withListener(l);
            case 4: return house.lateWith(l);
            case 5: return requests.waitingOf(l);
            case 6: return listeners.cameSoFar[l];
            case 7: return listeners.titlesHad(l);
            default: return BAD;
        }
    }

    public int ask(int l, int t) {
        if (!listeners.has(l) || !titles.has(t)) {
            return BAD;
        }
        if (requests.waitsFor(l, t)) {
            return STATE;
        }
        return requests.add(l, t, house.today);
    }

    public int unask(int r) {
        if (!requests.has(r)) {
            return BAD;
        }
        if (requests.state[r] != WAITING) {
            return STATE;
        }
        requests.state[r] = TAKEN_BACK;
        return 1;
    }

    public int request(int r, int what) {
        if (!requests.has(r)) {
            return BAD;
        }
        switch (what) {
            case 0: return requests.listener[r];
            case 1: return requests.title[r];
            case 2: return requests.came[r];
            case 3: return requests.state[r];
            case 4: return requests.copy[r];
            default: return BAD;
        }
    }

    public int may(int l, int t) {
        if (!listeners.has(l) || !titles.has(t)) {
            return BAD;
        }
        return house.maySend(l, t) ? 1 : 0;
    }

    public int queue(int t, int i) {
        if (!titles.has(t) || i < 0) {
            return BAD;
        }
        int length = house.lineUp(t);
        return i < length && i < REQUESTS ? house.line[i] : NONE;
    }

    public int day() {
        if (house.today >= LAST_DAY) {
            return FULL;
        }
        house.passDay();
        return house.serveAll();
    }

    public int serve() {
        return house.serveAll();
    }

    // ---- parcels, program

    public int parcels(int what) {
        if (!within(what, 0, 1)) {
            return BAD;
        }
        for (int t = 0; t < TITLES; t++) {
            pairing.setTitle(t, titles.has(t) ? copies.inHouse(t) : 0);
        }
        for (int l = 0; l < LISTENERS; l++) {
            pairing.setListener(l, listeners.has(l) ? house.rules.numbers[LOAN] - copies.held(l) : 0);
            setPairs(l);
        }
        pairing.solve();
        return what == 0 ? pairing.pairs : pairing.liked;
    }

    public int program(int some, int hoursA, int tonguesA, int hoursB, int tonguesB, int what) {
        int number = titles.number;
        if (!within(some, 0, (1 << number) - 1) || !isVoice(hoursA, tonguesA) || !isVoice(hoursB, tonguesB)) {
            return BAD;
        }
        if (!within(what, 0, 1) && !within(what, 10, 9 + number)) {
            return BAD;
        }
        for (int t = 0; t < number; t++) {
            int bit = 1 << titles.tongue[t];
            int voices = ((tonguesA & bit) != 0 ? 1 : 0) + ((tonguesB & bit) != 0 ? 2 : 0);
            boolean among = (some >> t & 1) != 0;
            reading.setTitle(t, among ? requests.waitingFor(t) : 0, titles.minutesOf(t), voices);
        }
        reading.setRooms(hoursA * 60, hoursB * 60);
        reading.solve();
        if (what >= 10) {
            return reading.who[what - 10];
        }
        return what == 0 ? reading.requestsRead() : reading.minutesRead();
    }

    // ---- errors

    public int error(int t, int side, int minute, int ears) {
        if (!titles.has(t) || !titles.hasSide(t, side) || !within(ears, 1, 3)
                || !within(minute, 0, titles.minutes[t * SIDES + side] - 1)) {
            return BAD;
        }
        return errors.hear(t, side, minute, ears, house.today);
    }

    public int errorOf(int e, int what) {
        if (!errors.has(e)) {
            return BAD;
        }
        switch (what) {
            case 0: return errors.title[e];
            case 1: return errors.side[e];
            case 2: return errors.minute[e];
            case 3: return errors.ears[e];
            case 4: return errors.came[e];
            case 5: return titles.reader[errors.title[e]];
            default: return BAD;
        }
    }

    public int all(int t, int what) {
        if (!titles.has(t) || !within(what, 0, 1)) {
            return BAD;
        }
        int both = errors.heardBy(t, 3);
        if (both == 0) {
            return lowest(errors.ofTitle(t), 1, what);
        }
        return lowest(errors.heardBy(t, 1) * errors.heardBy(t, 2), both, what);
    }

    public int habit(int r, int what) {
        if (!titles.hasReader(r) || !within(what, 0, 1)) {
            return BAD;
        }
        int found = 0;
        int minutes = 0;
        for (int t = 0; t < titles.number; t++) {
            if (titles.reader[t] == r) {
                found += errors.ofTitle(t);
                minutes += titles.minutesOf(t);
            }
        }
        return lowest(found, minutes, what);
    }

    public int led(int e, int day) {
        if (!errors.has(e) || !within(day, 0, house.today)) {
            return BAD;
        }
        if (errors.came[e] > day) {
            return NONE;
        }
        return house.withListenersOn(day) & copies.bitsOfTitle(errors.title[e]);
    }

    public int known(int t, int day) {
        if (t != NONE && !titles.has(t) || !within(day, 0, LAST_DAY)) {
            return BAD;
        }
        return errors.knownOn(t, day);
    }

    // ---- sheets

    public int sheet(int k, int lane, int n) {
        if (!within(k, 0, SHEETS - 1) || !within(lane, 0, LANES - 1) || n > CELLS) {
            return BAD;
        }
        return papers.renew(k, lane, n);
    }

    public int lay(int k, int i, int v) {
        if (!within(k, 0, SHEETS - 1)) {
            return BAD;
        }
        return papers.put(k, i, v);
    }

    public int sides(int t, int k, int lane, int f, int n) {
        if (!titles.has(t) || !within(k, 0, SHEETS - 1) || !within(lane, 0, LANES - 1) || !within(n, 1, SIDES)) {
            return BAD;
        }
        if (titles.sideCount[t] > 0) {
            return STATE;
        }
        int fault = papers.faultAsMinutes(k, lane, f, n);
        if (fault != 0) {
            return fault;
        }
        for (int i = 0; i < n; i++) {
            titles.addSide(t, papers.cell(k, f + i));
        }
        return titles.sideCount[t];
    }

    public int count(int what) {
        switch (what) {
            case 0: return titles.readers;
            case 1: return titles.number;
            case 2: return copies.number;
            case 3: return listeners.number;
            case 4: return requests.number;
            case 5: return requests.waiting();
            case 6: return errors.number;
            case 7: return house.today;
            case 8: return copies.atPlace(WITH);
            case 9: return copies.atPlace(WORN_OUT);
            case 10: return copies.atPlace(LOST);
            case 11: return tape.length;
            case 12: return papers.size[0];
            default: return BAD;
        }
    }

    // ---- helpers of the face

    private void setPairs(int l) {
        for (int t = 0; t < TITLES; t++) {
            boolean can = listeners.has(l) && titles.has(t) && house.maySend(l, t);
            pairing.setPair(l, t, can, can && house.isLiked(l, t));
        }
    }

    private static boolean isVoice(int hours, int tongues) {
        return within(hours, 0, MOST_HOURS) && within(tongues, 0, (1 << TONGUES) - 1);
    }

    private static boolean within(int v, int least, int most) {
        return v >= least && v <= most;
    }

    /** The numerator (what 0) or the denominator of a fraction in lowest terms; 0 by 1 where the divisor is 0. */
    private static int lowest(int above, int below, int what) {
        if (below <= 0) {
            return what == 0 ? 0 : 1;
        }
        int divisor = commonDivisor(above, below);
        if (divisor <= 0) {
            return what == 0 ? above : below;
        }
        return (what == 0 ? above : below) / divisor;
    }

    private static int commonDivisor(int a, int b) {
        int greater = a;
        int less = b;
        // Euclid's steps on ints stay below 50
        for (int step = 0; step < 64 && less != 0; step++) {
            int rest = greater % less;
            greater = less;
            less = rest;
        }
        return greater;
    }

    /** What the house holds to. */
    private static final class Rules {
        final int[] numbers = new int[NUMBER_RULES];
        final int[] keys = new int[KEYS];
        final int[] rightFrom = new int[TITLES];
        final int[] rightTo = new int[TITLES];
        int keyCount;

        Rules() {
            forget();
        }

        void forget() {
            for (int i = 0; i < NUMBER_RULES; i++) {
                numbers[i] = UNTOLD[i];
            }
            keys[0] = WAITED;
            keyCount = 1;
            Arrays.fill(rightFrom, NONE);
            Arrays.fill(rightTo, NONE);
        }

        boolean isKey(int key) {
            for (int i = 0; i < keyCount; i++) {
                if (keys[i] % LEAST_FIRST == key) {
                    return true;
                }
            }
            return false;
        }

        void addKey(int key, boolean leastFirst) {
            if (keyCount < KEYS) {
                keys[keyCount] = leastFirst ? key + LEAST_FIRST : key;
                keyCount++;
            }
        }

        boolean rightHolds(int t, int today) {
            return rightFrom[t] == NONE || today >= rightFrom[t] && today <= rightTo[t];
        }
    }

    /** The bytes of the tape, and how they are read as a text of rules. */
    private static final class Tape {
        /* Kinds of tokens; a sign's kind is the sign itself. */
        private static final int THE_END = 0, WORD = 1, NUMBER = 2;

        final byte[] bytes = new byte[TAPE];
        int length;
        int fault;
        private Rules rules;
        private int toldLines;
        private int at;
        private int kind;
        private int place;
        private int value;

        int append(long v) {
            if (length > TAPE - 8) {
                return FULL;
            }
            for (int i = 0; i < 8; i++) {
                bytes[length + i] = (byte) (v >> 56 - 8 * i);
            }
            length += 8;
            return length;
        }

        int keep(int n) {
            if (!within(n, 0, length)) {
                return BAD;
            }
            int before = length;
            length = n;
            return before;
        }

        /** Reads the tape into these rules and empties it: how many lines, or -10 less the fault's place. */
        int read(Rules into) {
            rules = into;
            rules.forget();
            fault = 0;
            at = 0;
            toldLines = 0;
            int lines = 0;
            next();
            // a line has at least one byte, so there are no more lines than bytes
            for (int i = 0; i < TAPE && fault == 0 && kind != THE_END; i++) {
                readLine();
                if (fault == 0) {
                    lines++;
                    next();
                }
            }
            length = 0;
            return fault == 0 ? lines : -10 - place;
        }

        private void readLine() {
            if (kind != WORD || value >= LINE_WORDS) {
                fault = MISPLACED;
                return;
            }
            int word = value;
            if (word == RIGHT) {
                readRight();
                return;
            }
            if ((toldLines >> word & 1) != 0) {
                fault = TWICE;
                return;
            }
            toldLines |= 1 << word;
            if (word == QUEUE) {
                readKeys();
            } else if (within(word, 0, NUMBER_RULES - 1)) {
                int number = readNumber(LEAST[word], MOST[word]);
                if (fault == 0) {
                    rules.numbers[word] = number;
                    readSign(';', ';');
                }
            }
        }

        private void readRight() {
            int t = readNumber(0, TITLES - 1);
            if (fault != 0) {
                return;
            }
            if (rules.rightFrom[t] != NONE) {
                fault = TWICE;
                return;
            }
            int from = readNumber(0, LAST_RIGHT);
            if (fault != 0) {
                return;
            }
            int to = readNumber(from, LAST_RIGHT);
            if (fault != 0) {
                return;
            }
            rules.rightFrom[t] = from;
            rules.rightTo[t] = to;
            readSign(';', ';');
        }

        private void readKeys() {
            rules.keyCount = 0;
            boolean more = true;
            // a key told twice is a fault, so the row of keys ends before this bound
            for (int i = 0; i <= KEYS && more; i++) {
                int way = readSign('+', '-');
                readKey(way == '-');
                more = readSign(',', ';') == ',';
            }
        }

        private void readKey(boolean leastFirst) {
            next();
            if (fault == 0 && (kind != WORD || value < LINE_WORDS)) {
                fault = MISPLACED;
            }
            if (fault == 0 && rules.isKey(value - LINE_WORDS)) {
                fault = TWICE;
            }
            if (fault == 0) {
                rules.addKey(value - LINE_WORDS, leastFirst);
            }
        }

        /** The next token, a number of these bounds; 0 behind a fault. */
        private int readNumber(int least, int most) {
            next();
            if (fault == 0 && kind != NUMBER) {
                fault = MISPLACED;
            }
            if (fault == 0 && !within(value, least, most)) {
                fault = OUT_OF_BOUNDS;
            }
            return fault == 0 ? value : 0;
        }

        /** The next token, one of two signs; 0 behind a fault. */
        private int readSign(int sign, int other) {
            next();
            if (fault == 0 && kind != sign && kind != other) {
                fault = MISPLACED;
            }
            return fault == 0 ? kind : 0;
        }

        /** Takes one token: its kind, its place (the length at the end), its value; none behind a fault. */
        private void next() {
            if (fault != 0) {
                return;
            }
            for (int i = 0; i < TAPE && at < length && bytes[at] == ' '; i++) {
                at++;
            }
            place = at;
            int first = at < length ? bytes[at] : THE_END;
            if (at >= length) {
                kind = THE_END;
            } else if (isLetter(first)) {
                nextWord();
            } else if (isFigure(first)) {
                nextNumber();
            } else if (first == '+' || first == '-' || first == ',' || first == ';') {
                kind = first;
                at++;
            } else {
                fault = NO_TOKEN;
            }
        }

        private static boolean isLetter(int sign) {
            return sign >= 'a' && sign <= 'z';
        }

        private static boolean isFigure(int sign) {
            return sign >= '0' && sign <= '9';
        }

        private void nextWord() {
            for (int i = 0; i < TAPE && at < length && isLetter(bytes[at]); i++) {
                at++;
            }
            int letters = at - place;
            kind = WORD;
            value = NONE;
            for (int word = 0; word < WORDS && letters <= SLOT; word++) {
                int same = 0;
                // behind a shorter word its slot has blanks, which no letter is like
                for (int i = 0; i < SLOT && same == i; i++) {
                    int letter = i < letters ? bytes[place + i] : ' ';
                    same += letter == SPELLED.charAt(word * SLOT + i) ? 1 : 0;
                }
                if (same == SLOT) {
                    value = word;
                }
            }
            fault = value == NONE ? NO_TOKEN : 0;
        }

        private void nextNumber() {
            kind = NUMBER;
            value = 0;
            for (int i = 0; i < TAPE && at < length && isFigure(bytes[at]); i++) {
                if (i < MOST_FIGURES) {
                    value = value * 10 + bytes[at] - '0';
                }
                at++;
            }
            if (at - place > MOST_FIGURES) {
                fault = NO_TOKEN;
            }
        }
    }

    /** Readers, and titles with their sides. */
    private static final class Titles {
        final int[] readerTongue = new int[READERS];
        final int[] tongue = new int[TITLES];
        final int[] kin = new int[TITLES];
        final int[] reader = new int[TITLES];
        final int[] sideCount = new int[TITLES];
        final int[] minutes = new int[TITLES * SIDES];
        int readers;
        int number;

        boolean hasReader(int r) {
            return r >= 0 && r < readers;
        }

        boolean has(int t) {
            return t >= 0 && t < number;
        }

        boolean hasSide(int t, int side) {
            return side >= 0 && side < sideCount[t];
        }

        int addReader(int itsTongue) {
            if (readers >= READERS) {
                return FULL;
            }
            readerTongue[readers] = itsTongue;
            readers++;
            return readers - 1;
        }

        int add(int itsTongue, int itsKin, int itsReader) {
            if (number >= TITLES) {
                return FULL;
            }
            tongue[number] = itsTongue;
            kin[number] = itsKin;
            reader[number] = itsReader;
            number++;
            return number - 1;
        }

        int addSide(int t, int itsMinutes) {
            if (sideCount[t] >= SIDES) {
                return FULL;
            }
            minutes[t * SIDES + sideCount[t]] = itsMinutes;
            sideCount[t]++;
            return sideCount[t];
        }

        int minutesOf(int t) {
            int sum = 0;
            for (int i = 0; i < sideCount[t]; i++) {
                sum += minutes[t * SIDES + i];
            }
            return sum;
        }
    }

    /** Copies: of which title, where, at or from whom, how often played. */
    private static final class Copies {
        final int[] title = new int[COPIES];
        final int[] where = new int[COPIES];
        final int[] listener = new int[COPIES];
        final int[] plays = new int[COPIES];
        final int[] since = new int[COPIES];
        int number;

        boolean has(int c) {
            return c >= 0 && c < number;
        }

        int add(int t, int today) {
            if (number >= COPIES) {
                return FULL;
            }
            title[number] = t;
            number++;
            put(number - 1, IN_HOUSE, NONE, today);
            return number - 1;
        }

        void put(int c, int place, int l, int today) {
            where[c] = place;
            listener[c] = l;
            since[c] = today;
        }

        int ofTitle(int t) {
            return Integer.bitCount(bitsOfTitle(t));
        }

        int bitsOfTitle(int t) {
            int bits = 0;
            for (int c = 0; c < number; c++) {
                if (title[c] == t) {
                    bits |= 1 << c;
                }
            }
            return bits;
        }

        int inHouse(int t) {
            int sum = 0;
            for (int c = 0; c < number; c++) {
                if (title[c] == t && where[c] == IN_HOUSE) {
                    sum++;
                }
            }
            return sum;
        }

        int atPlace(int place) {
            int sum = 0;
            for (int c = 0; c < number; c++) {
                if (where[c] == place) {
                    sum++;
                }
            }
            return sum;
        }

        int bitsWithListeners() {
            int bits = 0;
            for (int c = 0; c < number; c++) {
                if (where[c] == WITH) {
                    bits |= 1 << c;
                }
            }
            return bits;
        }

        /** How many are on the way out to a listener or with it. */
        int held(int l) {
            int sum = 0;
            for (int c = 0; c < number; c++) {
                if (listener[c] == l && where[c] != WAY_BACK) {
                    sum++;
                }
            }
            return sum;
        }

        int withListener(int l) {
            return withSinceBefore(l, LAST_DAY + 1);
        }

        int withSinceBefore(int l, int day) {
            int sum = 0;
            for (int c = 0; c < number; c++) {
                if (listener[c] == l && where[c] == WITH && since[c] < day) {
                    sum++;
                }
            }
            return sum;
        }

        /** Whether one of a title is bound to a listener: on either way, or with it. */
        boolean boundTo(int l, int t) {
            for (int c = 0; c < number; c++) {
                if (listener[c] == l && title[c] == t) {
                    return true;
                }
            }
            return false;
        }

        /** The least played copy of a title in the house. */
        int leastPlayed(int t) {
            int best = NONE;
            for (int c = 0; c < number; c++) {
                if (title[c] == t && where[c] == IN_HOUSE && (best < 0 || plays[c] < plays[best])) {
                    best = c;
                }
            }
            return best;
        }
    }

    /** Listeners, and when titles came to them. */
    private static final class Listeners {
        final int[] tongues = new int[LISTENERS];
        final int[] likes = new int[LISTENERS];
        final int[] cameSoFar = new int[LISTENERS];
        final int[] latest = new int[LISTENERS * TITLES];
        int number;

        Listeners() {
            Arrays.fill(latest, NONE);
        }

        boolean has(int l) {
            return l >= 0 && l < number;
        }

        int add(int itsTongues, int itsLikes) {
            if (number >= LISTENERS) {
                return FULL;
            }
            tongues[number] = itsTongues;
            likes[number] = itsLikes;
            number++;
            return number - 1;
        }

        void receive(int l, int t, int today) {
            cameSoFar[l]++;
            latest[l * TITLES + t] = today;
        }

        int titlesHad(int l) {
            int bits = 0;
            for (int t = 0; t < TITLES; t++) {
                if (latest[l * TITLES + t] != NONE) {
                    bits |= 1 << t;
                }
            }
            return bits;
        }
    }

    /** Requests: who asked for what, when, and what became of it. */
    private static final class Requests {
        final int[] listener = new int[REQUESTS];
        final int[] title = new int[REQUESTS];
        final int[] came = new int[REQUESTS];
        final int[] state = new int[REQUESTS];
        final int[] copy = new int[REQUESTS];
        int number;

        boolean has(int r) {
            return r >= 0 && r < number;
        }

        int add(int l, int t, int today) {
            if (number >= REQUESTS) {
                return FULL;
            }
            listener[number] = l;
            title[number] = t;
            came[number] = today;
            state[number] = WAITING;
            copy[number] = NONE;
            number++;
            return number - 1;
        }

        boolean waitsFor(int l, int t) {
            for (int r = 0; r < number; r++) {
                if (state[r] == WAITING && listener[r] == l && title[r] == t) {
                    return true;
                }
            }
            return false;
        }

        int waitingFor(int t) {
            int sum = 0;
            for (int r = 0; r < number; r++) {
                if (state[r] == WAITING && title[r] == t) {
                    sum++;
                }
            }
            return sum;
        }

        int waitingOf(int l) {
            int sum = 0;
            for (int r = 0; r < number; r++) {
                if (state[r] == WAITING && listener[r] == l) {
                    sum++;
                }
            }
            return sum;
        }

        int waiting() {
            int sum = 0;
            for (int r = 0; r < number; r++) {
                if (state[r] == WAITING) {
                    sum++;
                }
            }
            return sum;
        }
    }

    /** The house on its day: who may have what, who comes first, what goes out and comes back. */
    private static final class House {
        final Titles titles = new Titles();
        final Copies copies = new Copies();
        final Listeners listeners = new Listeners();
        final Requests requests = new Requests();
        final int[] line = new int[REQUESTS];
        final int[] withBits = new int[LAST_DAY + 1];
        Rules rules = new Rules();
        int today;

        boolean maySend(int l, int t) {
            return (listeners.tongues[l] >> titles.tongue[t] & 1) != 0
                && rules.rightHolds(t, today)
                && !copies.boundTo(l, t)
                && mayHaveAgain(l, t);
        }

        private boolean mayHaveAgain(int l, int t) {
            int latest = listeners.latest[l * TITLES + t];
            int again = rules.numbers[AGAIN];
            return latest == NONE || again > 0 && today - latest >= again;
        }

        boolean isLiked(int l, int t) {
            return (listeners.likes[l] >> titles.kin[t] & 1) != 0;
        }

        int lateWith(int l) {
            return copies.withSinceBefore(l, today - rules.numbers[DAYS]);
        }

        /** Lays the queue of a title in line: how long it is. */
        int lineUp(int t) {
            int length = 0;
            for (int r = 0; r < requests.number; r++) {
                if (standsInLine(r, t)) {
                    int at = length;
                    for (int i = length; i > 0 && isAhead(r, line[i - 1]); i--) {
                        line[i] = line[i - 1];
                        at = i - 1;
                    }
                    line[at] = r;
                    length++;
                }
            }
            return length;
        }

        private boolean standsInLine(int r, int t) {
            if (requests.state[r] != WAITING || requests.title[r] != t) {
                return false;
            }
            int l = requests.listener[r];
            return maySend(l, t) && copies.held(l) < rules.numbers[LOAN];
        }

        private boolean isAhead(int r, int other) {
            for (int i = 0; i < rules.keyCount; i++) {
                int key = rules.keys[i];
                int mine = weight(r, key % LEAST_FIRST);
                int its = weight(other, key % LEAST_FIRST);
                if (mine != its) {
                    return key < LEAST_FIRST ? mine > its : mine < its;
                }
            }
            return r < other;
        }

        private int weight(int r, int key) {
            int l = requests.listener[r];
            switch (key) {
                case WAITED: return today - requests.came[r];
                case HAD: return listeners.cameSoFar[l];
                case LATE: return lateWith(l);
                case LIKES: return isLiked(l, requests.title[r]) ? 1 : 0;
                default: return r;
            }
        }

        /** A day goes, up to the serving. */
        void passDay() {
            withBits[today] = copies.bitsWithListeners();
            today++;
            for (int c = 0; c < copies.number; c++) {
                boolean due = today - copies.since[c] >= rules.numbers[LAG];
                if (due && copies.where[c] == WAY_OUT) {
                    arrive(c);
                } else if (due && copies.where[c] == WAY_BACK) {
                    comeHome(c);
                }
            }
        }

        int serveAll() {
            int out = 0;
            for (int t = 0; t < titles.number; t++) {
                out += serveTitle(t);
            }
            return out;
        }

        private int serveTitle(int t) {
            // each turn sends one copy out, and what went out does not come back here
            for (int out = 0; out < COPIES; out++) {
                int c = copies.leastPlayed(t);
                if (c < 0 || lineUp(t) == 0) {
                    return out;
                }
                sendOut(c, line[0]);
            }
            return COPIES;
        }

        private void sendOut(int c, int r) {
            copies.put(c, WAY_OUT, requests.listener[r], today);
            requests.state[r] = SERVED;
            requests.copy[r] = c;
            if (rules.numbers[LAG] == 0) {
                arrive(c);
            }
        }

        private void arrive(int c) {
            int l = copies.listener[c];
            copies.put(c, WITH, l, today);
            copies.plays[c]++;
            if (listeners.has(l)) {
                listeners.receive(l, copies.title[c], today);
            }
        }

        /** A copy leaves its listener: where it is then. */
        int sendBack(int c) {
            copies.put(c, WAY_BACK, copies.listener[c], today);
            if (rules.numbers[LAG] == 0) {
                comeHome(c);
            }
            return copies.where[c];
        }

        private void comeHome(int c) {
            boolean worn = copies.plays[c] >= rules.numbers[LIFE];
            copies.put(c, worn ? WORN_OUT : IN_HOUSE, NONE, today);
        }

        /** The copies (bits) that were with listeners when a day ended; on the present day, that are. */
        int withListenersOn(int day) {
            return within(day, 0, today - 1) ? withBits[day] : copies.bitsWithListeners();
        }
    }

    /**
     * The most pairs of listeners and titles, then the most liked ones among them: pairs are added
     * one by one along the chain that gains the most liked ones, which keeps both at their most.
     */
    private static final class Parcels {
        private static final int UNREACHED = -1000;

        private final int[] titleSpare = new int[TITLES];
        private final int[] titleGain = new int[TITLES];
        private final int[] titleFrom = new int[TITLES];
        private final int[] listenerSpare = new int[LISTENERS];
        private final int[] listenerGain = new int[LISTENERS];
        private final int[] listenerFrom = new int[LISTENERS];
        private final boolean[] can = new boolean[LISTENERS * TITLES];
        private final boolean[] chosen = new boolean[LISTENERS * TITLES];
        private final int[] worth = new int[LISTENERS * TITLES];
        int pairs;
        int liked;

        void setTitle(int t, int spare) {
            titleSpare[t] = spare;
        }

        void setListener(int l, int spare) {
            listenerSpare[l] = spare;
        }

        void setPair(int l, int t, boolean possible, boolean isLiked) {
            int pair = l * TITLES + t;
            can[pair] = possible;
            chosen[pair] = false;
            worth[pair] = isLiked ? 1 : 0;
        }

        void solve() {
            pairs = 0;
            liked = 0;
            // every pair takes a copy
            for (int i = 0; i < COPIES; i++) {
                int last = lastOfBestChain();
                if (last < 0) {
                    return;
                }
                pairs++;
                liked += listenerGain[last];
                turn(last);
            }
        }

        private int lastOfBestChain() {
            for (int t = 0; t < TITLES; t++) {
                titleGain[t] = titleSpare[t] > 0 ? 0 : UNREACHED;
                titleFrom[t] = NONE;
            }
            Arrays.fill(listenerGain, UNREACHED);
            Arrays.fill(listenerFrom, NONE);
            boolean moved = true;
            for (int i = 0; i < TITLES + LISTENERS && moved; i++) {
                moved = spread();
            }
            int best = NONE;
            for (int l = 0; l < LISTENERS; l++) {
                boolean open = listenerSpare[l] > 0 && listenerGain[l] > UNREACHED;
                if (open && (best < 0 || listenerGain[l] > listenerGain[best])) {
                    best = l;
                }
            }
            return best;
        }

        /** Leads every chain one pair on, where that gains: whether one did. */
        private boolean spread() {
            boolean moved = false;
            for (int l = 0; l < LISTENERS; l++) {
                for (int t = 0; t < TITLES; t++) {
                    int pair = l * TITLES + t;
                    if (can[pair] && (chosen[pair] ? giveUp(l, t, pair) : take(l, t, pair))) {
                        moved = true;
                    }
                }
            }
            return moved;
        }

        private boolean take(int l, int t, int pair) {
            int gain = titleGain[t] + worth[pair];
            if (titleGain[t] == UNREACHED || gain <= listenerGain[l]) {
                return false;
            }
            listenerGain[l] = gain;
            listenerFrom[l] = t;
            return true;
        }

        private boolean giveUp(int l, int t, int pair) {
            int gain = listenerGain[l] - worth[pair];
            if (listenerGain[l] == UNREACHED || gain <= titleGain[t]) {
                return false;
            }
            titleGain[t] = gain;
            titleFrom[t] = l;
            return true;
        }

        /** Takes the pairs of the chain that ends at a listener, gives up those between them. */
        private void turn(int last) {
            listenerSpare[last]--;
            int l = last;
            for (int i = 0; i < TITLES + LISTENERS; i++) {
                int t = listenerFrom[l];
                if (t < 0) {
                    return;
                }
                chosen[l * TITLES + t] = true;
                l = titleFrom[t];
                if (l < 0) {
                    titleSpare[t]--;
                    return;
                }
                chosen[l * TITLES + t] = false;
            }
        }
    }

    /**
     * Which titles two voices read. What a choice of titles is worth is one number: its requests, each
     * above all minutes there can be, less its minutes. A choice that is worth as much as the best one
     * so far is laid out as a row of voices, if they have room for it; of equal ones the least row
     * stays. What was solved stays until the task changes.
     */
    private static final class Program {
        private static final int REQUEST_WORTH = 10000;

        final int[] who = new int[TITLES];
        private final int[] row = new int[TITLES];
        private final boolean[] chosen = new boolean[TITLES];
        private final int[] wanted = new int[TITLES];
        private final int[] minutes = new int[TITLES];
        private final int[] voices = new int[TITLES];
        private final int[] byRate = new int[TITLES];
        private int rated;
        private int roomA;
        private int roomB;
        private int best;
        private boolean solved;

        /** A title that nobody wants has no voice: reading it would cost minutes for nothing. */
        void setTitle(int t, int itsWanted, int itsMinutes, int itsVoices) {
            int useful = itsWanted > 0 ? itsVoices : 0;
            if (wanted[t] != itsWanted || minutes[t] != itsMinutes || voices[t] != useful) {
                wanted[t] = itsWanted;
                minutes[t] = itsMinutes;
                voices[t] = useful;
                solved = false;
            }
        }

        void setRooms(int a, int b) {
            if (roomA != a || roomB != b) {
                roomA = a;
                roomB = b;
                solved = false;
            }
        }

        void solve() {
            if (solved) {
                return;
            }
            sortByRate();
            // below the choice of no title, which can always be read
            best = -1;
            seek(this, 0, 0, roomA + roomB);
            solved = true;
        }

        int requestsRead() {
            int sum = 0;
            for (int t = 0; t < TITLES; t++) {
                sum += who[t] > 0 ? wanted[t] : 0;
            }
            return sum;
        }

        int minutesRead() {
            int sum = 0;
            for (int t = 0; t < TITLES; t++) {
                sum += who[t] > 0 ? minutes[t] : 0;
            }
            return sum;
        }

        private int worth(int t) {
            return wanted[t] * REQUEST_WORTH - minutes[t];
        }

        /** Titles that have a voice are wanted, so that rates with no minutes at all still have an order. */
        private void sortByRate() {
            rated = 0;
            for (int t = 0; t < TITLES; t++) {
                if (voices[t] != 0) {
                    int at = rated;
                    for (int i = rated; i > 0 && isDenser(t, byRate[i - 1]); i--) {
                        byRate[i] = byRate[i - 1];
                        at = i - 1;
                    }
                    byRate[at] = t;
                    rated++;
                }
            }
        }

        private boolean isDenser(int t, int other) {
            return wanted[t] * minutes[other] > wanted[other] * minutes[t];
        }

        /** No choice among the titles from a rank on is worth more in so many minutes: one may be cut. */
        private int mostFrom(int rank, int room) {
            int sum = 0;
            int left = room;
            for (int i = rank; i < rated; i++) {
                int t = byRate[i];
                if (minutes[t] > left) {
                    return minutes[t] > 0 ? sum + (int) ((long) worth(t) * left / minutes[t]) : sum;
                }
                sum += worth(t);
                left -= minutes[t];
            }
            return sum;
        }

        /** Chooses or leaves the titles from a rank on, which ends with the last of them. */
        private static void seek(Program p, int rank, int sum, int room) {
            if (sum + p.mostFrom(rank, room) < p.best) {
                return;
            }
            if (rank >= p.rated) {
                p.offer(sum);
                return;
            }
            int t = p.byRate[rank];
            if (p.minutes[t] <= room) {
                p.chosen[t] = true;
                seek(p, rank + 1, sum + p.worth(t), room - p.minutes[t]);
                p.chosen[t] = false;
            }
            seek(p, rank + 1, sum, room);
        }

        /** Takes the chosen titles, worth no less than the best so far, if the voices can read them. */
        private void offer(int sum) {
            if (layRow(this, 0, roomA, roomB) && (sum > best || isLeastRow())) {
                best = sum;
                for (int t = 0; t < TITLES; t++) {
                    who[t] = row[t];
                }
            }
        }

        private boolean isLeastRow() {
            for (int t = 0; t < TITLES; t++) {
                if (row[t] != who[t]) {
                    return row[t] < who[t];
                }
            }
            return false;
        }

        /** Lays the least row in which the chosen titles from this one on are read: whether there is one. */
        private static boolean layRow(Program p, int t, int a, int b) {
            if (t >= TITLES) {
                return true;
            }
            if (!p.chosen[t]) {
                p.row[t] = 0;
                return layRow(p, t + 1, a, b);
            }
            p.row[t] = 1;
            if (p.canRead(1, t, a) && layRow(p, t + 1, a - p.minutes[t], b)) {
                return true;
            }
            p.row[t] = 2;
            return p.canRead(2, t, b) && layRow(p, t + 1, a, b - p.minutes[t]);
        }

        private boolean canRead(int voice, int t, int room) {
            return (voices[t] & voice) != 0 && minutes[t] <= room;
        }
    }

    /** Errors heard: where, by which ears, since when. */
    private static final class Errors {
        final int[] title = new int[ERRORS];
        final int[] side = new int[ERRORS];
        final int[] minute = new int[ERRORS];
        final int[] ears = new int[ERRORS];
        final int[] came = new int[ERRORS];
        int number;

        boolean has(int e) {
            return e >= 0 && e < number;
        }

        int hear(int t, int itsSide, int itsMinute, int itsEars, int today) {
            for (int e = 0; e < number; e++) {
                if (title[e] == t && side[e] == itsSide && minute[e] == itsMinute) {
                    ears[e] |= itsEars;
                    return e;
                }
            }
            if (number >= ERRORS) {
                return FULL;
            }
            title[number] = t;
            side[number] = itsSide;
            minute[number] = itsMinute;
            ears[number] = itsEars;
            came[number] = today;
            number++;
            return number - 1;
        }

        int ofTitle(int t) {
            return knownOn(t, LAST_DAY);
        }

        /** How many of a title all these ears found. */
        int heardBy(int t, int itsEars) {
            int sum = 0;
            for (int e = 0; e < number; e++) {
                if (title[e] == t && (ears[e] & itsEars) == itsEars) {
                    sum++;
                }
            }
            return sum;
        }

        /** How many of a title (NONE: of all) had come by a day. */
        int knownOn(int t, int day) {
            int sum = 0;
            for (int e = 0; e < number; e++) {
                if ((t == NONE || title[e] == t) && came[e] <= day) {
                    sum++;
                }
            }
            return sum;
        }
    }

    /** Sheets: rows of cells of a lane; a sheet of nothing has the size NONE. */
    private static final class Sheets {
        final int[] size = new int[SHEETS];
        private final int[] lane = new int[SHEETS];
        private final int[] cells = new int[SHEETS * CELLS];

        Sheets() {
            Arrays.fill(size, NONE);
        }

        int renew(int k, int itsLane, int n) {
            if (n < 0) {
                return SIZE_FAULT;
            }
            size[k] = n;
            lane[k] = itsLane;
            for (int i = 0; i < n; i++) {
                cells[k * CELLS + i] = 0;
            }
            return 1;
        }

        int put(int k, int i, int v) {
            if (size[k] == NONE) {
                return NULL_FAULT;
            }
            if (!hasCell(k, i)) {
                return INDEX_FAULT;
            }
            cells[k * CELLS + i] = lowestBits(lane[k], v);
            return 1;
        }

        /** The first thing that keeps n cells from f on from being minutes, as it is answered; 0: nothing. */
        int faultAsMinutes(int k, int itsLane, int f, int n) {
            if (size[k] == NONE) {
                return NULL_FAULT;
            }
            if (lane[k] != itsLane) {
                return CAST_FAULT;
            }
            for (int i = 0; i < n; i++) {
                if (!hasCell(k, f + i)) {
                    return INDEX_FAULT;
                }
                if (!within(cell(k, f + i), 1, MOST_MINUTES)) {
                    return -20 - i;
                }
            }
            return 0;
        }

        int cell(int k, int i) {
            return hasCell(k, i) ? cells[k * CELLS + i] : 0;
        }

        private boolean hasCell(int k, int i) {
            return i >= 0 && i < size[k];
        }

        private static int lowestBits(int itsLane, int v) {
            switch (itsLane) {
                case 0: return (byte) v;
                case 1: return (short) v;
                default: return v;
            }
        }
    }
}
