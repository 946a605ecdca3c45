import java.util.Arrays;

/**
 * A village that names its boats after whoever hates their builders most: what is told of hates,
 * boats and events, what comes of it week by week, and what had better have been told instead.
 */
public final class BoatNames {
    public static final int NONE = -1, BAD = -2, NOT = -3, FULL = -4;

    private static final int PEOPLE = 8;
    private static final int BOATS = 8;
    private static final int EVENTS = 8;
    private static final int SIGHTINGS = 8;
    private static final int WEEKS = 24;
    private static final int LAST_WEEK = 23;
    private static final int MOST_HATE = 9;
    private static final int NEW_HATE = 5;
    private static final int NOBODY = 8;

    private static final int TEXTS = 2;
    private static final int HATES_TEXT = 0;
    private static final int HATES_BYTES = 47;
    private static final int BOATS_BYTES = 39;
    private static final int HATE_STEP = 4;
    private static final int BOAT_STEP = 5;

    private static final int SORTS = 3;
    private static final int SMACK = 1;
    private static final int TUB = 2;

    private static final int KINDS = 3;
    private static final int STORM = 0;
    private static final int SHARE = 1;

    private static final int UNLAUNCHED = 0;
    private static final int AT_SEA = 1;
    private static final int SUNK = 2;
    private static final int ROTS = 3;

    private static final int SIXTEENTHS = 16;
    private static final int DIGEST_CHANCE = 5;

    private static final int SHEETS = 4;
    private static final int FORMS = 3;
    private static final int MOST_ITEMS = 60;

    private static final int NULL = 1;
    private static final int INDEX = 2;
    private static final int CAST = 3;
    private static final int STORE = 4;
    private static final int SIZE = 5;

    private final Text hatesText;
    private final Text boatsText;
    private final Telling told;
    private final Telling trial;
    private final Voyage voyage;
    private final Sightings sightings;
    private final Best best;
    private final Sheet[] sheets;
    private final long[] sunkWeights;
    private final int[] nameRows;
    private int finding;

    public BoatNames() {
        hatesText = new Text(HATES_BYTES);
        boatsText = new Text(BOATS_BYTES);
        told = new Telling();
        trial = new Telling();
        voyage = new Voyage(told);
        sightings = new Sightings();
        best = new Best();
        sheets = new Sheet[SHEETS];
        for (int s = 0; s < SHEETS; s++) {
            sheets[s] = new Sheet();
        }
        sunkWeights = new long[BOATS];
        nameRows = new int[MOST_HATE + 1];
        finding = 0;
    }

    // ---- hates, boats, events

    public int type(int text, int b) {
        if (!isBelow(text, TEXTS) || !isBelow(b, 256)) {
            return BAD;
        }
        Text typed = textOf(text);
        if (typed.isFull()) {
            return FULL;
        }
        typed.append(b);
        hear(text);
        return typed.size;
    }

    public int wipe(int text) {
        if (!isBelow(text, TEXTS)) {
            return BAD;
        }
        Text wiped = textOf(text);
        int had = wiped.size;
        wiped.size = 0;
        hear(text);
        return had;
    }

    public int undo(int text) {
        if (!isBelow(text, TEXTS)) {
            return BAD;
        }
        Text cut = textOf(text);
        if (cut.size == 0) {
            return NOT;
        }
        cut.size--;
        hear(text);
        return cut.size;
    }

    public int fault(int text) {
        return isBelow(text, TEXTS) ? textOf(text).fault : BAD;
    }

    public int told(int who, int whom) {
        return areTwo(who, whom) ? told.hate[pair(who, whom)] : BAD;
    }

    public int boat(int boat, int what) {
        if (!isBoat(boat)) {
            return BAD;
        }
        switch (what) {
            case 0:
                return told.sorts[boat];
            case 1:
                return told.builders[boat];
            case 2:
                return told.launches[boat];
            case 3:
                return told.strengths[boat];
            default:
                return BAD;
        }
    }

    public int event(int kind, int week, int boat) {
        if (!isBelow(kind, KINDS) || !isBelow(week, WEEKS) || !isBelow(boat, BOATS)) {
            return BAD;
        }
        if (told.events >= EVENTS) {
            return FULL;
        }
        told.addEvent(kind, week, boat);
        return told.events;
    }

    public int back() {
        if (told.events == 0) {
            return NOT;
        }
        told.events--;
        return told.events;
    }

    public int read(int s) {
        if (!isBelow(s, SHEETS)) {
            return BAD;
        }
        Sheet sheet = sheets[s];
        if (sheet.lost) {
            return find(NULL);
        }
        int whole = sheet.size / 3;
        for (int i = 0; i < whole; i++) {
            int at = 3 * i;
            if (event(sheet.items[at], sheet.items[at + 1], sheet.items[at + 2]) < 0) {
                return i;
            }
        }
        return whole;
    }

    // ---- weeks

    public int hates(int week, int who, int whom) {
        if (!isBelow(week, WEEKS) || !areTwo(who, whom)) {
            return BAD;
        }
        voyage.run(told, week);
        return voyage.hate[pair(who, whom)];
    }

    public int at(int week, int boat, int what) {
        if (!isBelow(week, WEEKS) || !isBoat(boat) || !isBelow(what, 4)) {
            return BAD;
        }
        voyage.run(told, week);
        switch (what) {
            case 0:
                return voyage.states[boat];
            case 1:
                return voyage.names[boat];
            case 2:
                return voyage.grudges[boat];
            default:
                return voyage.strengths[boat];
        }
    }

    public int afloat(int week) {
        if (!isBelow(week, WEEKS)) {
            return BAD;
        }
        voyage.run(told, week);
        return voyage.howMany(AT_SEA);
    }

    public int named(int person, int what) {
        if (!isBelow(person, PEOPLE) || !isBelow(what, 2)) {
            return BAD;
        }
        voyage.run(told, LAST_WEEK);
        return voyage.namesakes(person, what == 1);
    }

    public int first(int what) {
        if (!isBelow(what, 2)) {
            return BAD;
        }
        voyage.run(told, LAST_WEEK);
        return what == 0 ? voyage.firstWeek : voyage.firstBoat;
    }

    public int loved() {
        voyage.run(told, LAST_WEEK);
        int bits = 0;
        for (int p = 0; p < PEOPLE; p++) {
            if (voyage.worstEnemy(p) == NONE) {
                bits |= 1 << p;
            }
        }
        return bits;
    }

    public int bitter() {
        voyage.run(told, LAST_WEEK);
        best.clear();
        for (int p = 0; p < PEOPLE; p++) {
            best.offer(p, voyage.hatredOf(p));
        }
        return best.which;
    }

    public int longs(int boat) {
        if (!isBoat(boat)) {
            return BAD;
        }
        voyage.run(told, LAST_WEEK);
        return voyage.weeksAtSea[boat];
    }

    // ---- plans

    public int wrong(int boat, int what) {
        if (!isBoat(boat) || !isBelow(what, 2)) {
            return BAD;
        }
        seekWrong(boat);
        return what == 0 ? best.which : best.score;
    }

    public int pay(int boat, int what) {
        if (!isBoat(boat) || !isBelow(what, 2)) {
            return BAD;
        }
        seekPay(boat);
        return what == 0 ? best.which : best.score;
    }

    public int waits(int boat, int what) {
        if (!isBoat(boat) || !isBelow(what, 2)) {
            return BAD;
        }
        seekWait(boat);
        return what == 0 ? best.which : -best.score;
    }

    public int spare(int i) {
        if (i < NONE || i > 1) {
            return BAD;
        }
        int bits = spareBits();
        if (bits == NONE) {
            return NONE;
        }
        return i == NONE ? Integer.bitCount(bits) : placeOfBit(bits, i);
    }

    // ---- seen, chance, decades

    public int seen(int week, int boat, int person) {
        if (!isBelow(week, WEEKS) || !isBelow(boat, BOATS) || !isBelow(person, NOBODY + 1)) {
            return BAD;
        }
        if (sightings.size >= SIGHTINGS) {
            return FULL;
        }
        sightings.append(week, boat, person);
        return sightings.size;
    }

    public int forget() {
        int had = sightings.size;
        sightings.size = 0;
        return had;
    }

    public int never() {
        trial.become(told);
        int bits = 0;
        for (int e = 0; e < told.events; e++) {
            trial.leftOut = 1 << e;
            if (trialComesOutSo()) {
                bits |= 1 << e;
            }
        }
        return bits;
    }

    public int sort(int boat) {
        if (!isBoat(boat)) {
            return BAD;
        }
        trial.become(told);
        int bits = 0;
        for (int sort = 0; sort < SORTS; sort++) {
            trial.sorts[boat] = sort;
            if (trialComesOutSo()) {
                bits |= 1 << sort;
            }
        }
        return bits;
    }

    public int hated(int who, int whom) {
        return areTwo(who, whom) ? seekHated(who, whom) : BAD;
    }

    public int ask(int who, int whom) {
        if (!areTwo(who, whom)) {
            return BAD;
        }
        return weekToAsk(seekHated(who, whom));
    }

    public long chance(int c, int boat, int what) {
        if (!isBelow(c, SIXTEENTHS + 1) || !isBoat(boat) || !isBelow(what, 2)) {
            return Long.MIN_VALUE - BAD;
        }
        weighSunk(c);
        return what == 0 ? chanceAbove(boat) : chanceBelow(boat);
    }

    public int decades(int seed, int n, int what) {
        if (!isBelow(n, EVENTS + 1) || !isBelow(what, 2)) {
            return BAD;
        }
        trial.become(told);
        trial.drawEvents(seed, n);
        voyage.run(trial, LAST_WEEK);
        return voyage.howMany(what == 0 ? SUNK : AT_SEA);
    }

    // ---- sheets

    public int sheet(int s, int form, int n) {
        if (!isBelow(s, SHEETS) || !isBelow(form, FORMS) || n > MOST_ITEMS) {
            return BAD;
        }
        if (n < 0) {
            return find(SIZE);
        }
        sheets[s].renew(form, n);
        return n;
    }

    public int lose(int s) {
        if (!isBelow(s, SHEETS)) {
            return BAD;
        }
        Sheet sheet = sheets[s];
        if (sheet.lost) {
            return find(NULL);
        }
        sheet.lost = true;
        return sheet.size;
    }

    public int put(int s, int form, int i, int v) {
        if (!isBelow(s, SHEETS) || !isBelow(form, FORMS)) {
            return BAD;
        }
        int number = sheets[s].findingAt(form, i);
        if (number != 0) {
            return find(number);
        }
        sheets[s].set(i, v);
        return 1;
    }

    public int get(int s, int form, int i) {
        if (!isBelow(s, SHEETS) || !isBelow(form, FORMS)) {
            return Integer.MIN_VALUE;
        }
        int number = sheets[s].findingAt(form, i);
        if (number != 0) {
            finding = number;
            return Integer.MIN_VALUE;
        }
        return sheets[s].items[i];
    }

    public int copy(int s, int i, int t, int j, int n) {
        if (!isBelow(s, SHEETS) || !isBelow(t, SHEETS)) {
            return BAD;
        }
        Sheet from = sheets[s];
        Sheet to = sheets[t];
        if (from.lost || to.lost) {
            return find(NULL);
        }
        if (from.form != to.form) {
            return find(STORE);
        }
        if (!from.hasItems(i, n) || !to.hasItems(j, n)) {
            return find(INDEX);
        }
        System.arraycopy(from.items, i, to.items, j, n);
        return 1;
    }

    public int write(int boat, int s) {
        if (!isBoat(boat) || !isBelow(s, SHEETS)) {
            return BAD;
        }
        Sheet sheet = sheets[s];
        if (sheet.lost) {
            return find(NULL);
        }
        int weeks = Math.min(sheet.size, WEEKS);
        voyage.begin(told);
        for (int week = 0; week < weeks; week++) {
            voyage.sail(week);
            sheet.set(week, voyage.grudges[boat]);
        }
        return weeks;
    }

    public int count(int what) {
        switch (what) {
            case 0:
                return told.hates;
            case 1:
                return told.boats;
            case 2:
                return hatesText.size;
            case 3:
                return boatsText.size;
            case 4:
                return told.events;
            case 5:
                voyage.run(told, LAST_WEEK);
                return voyage.howMany(SUNK);
            case 6:
                voyage.run(told, LAST_WEEK);
                return voyage.allHatred();
            case 7:
                return sightings.size;
            case 8:
                return finding;
            default:
                return BAD;
        }
    }

    public long digest() {
        long h = 17;
        for (int what = 0; what < 8; what++) {
            h = 31 * h + count(what);
        }
        h = 31 * h + fault(0);
        h = 31 * h + fault(1);
        // One weighing serves all boats: it is the dearest part of a digest.
        weighSunk(DIGEST_CHANCE);
        for (int boat = 0; boat < told.boats; boat++) {
            h = digestBoat(h, boat);
        }
        for (int person = 0; person < PEOPLE; person++) {
            h = digestPerson(h, person);
        }
        for (int week = 0; week < WEEKS; week++) {
            h = 31 * h + afloat(week);
        }
        h = 31 * h + first(0);
        h = 31 * h + first(1);
        h = 31 * h + loved();
        h = 31 * h + bitter();
        h = 31 * h + spare(NONE);
        h = 31 * h + spare(0);
        h = 31 * h + never();
        h = 31 * h + decades(7, 6, 0);
        return 31 * h + decades(7, 6, 1);
    }

    private long digestBoat(long before, int boat) {
        long h = before;
        for (int what = 0; what < 4; what++) {
            h = 31 * h + boat(boat, what);
        }
        h = digestWeek(h, boat, 0);
        h = digestWeek(h, boat, 7);
        h = digestWeek(h, boat, 15);
        h = digestWeek(h, boat, LAST_WEEK);
        h = 31 * h + longs(boat);
        seekWrong(boat);
        h = 31 * h + best.which;
        h = 31 * h + best.score;
        seekPay(boat);
        h = 31 * h + best.which;
        h = 31 * h + best.score;
        seekWait(boat);
        h = 31 * h + best.which;
        h = 31 * h - best.score;
        h = 31 * h + sort(boat);
        h = 31 * h + chanceAbove(boat);
        return 31 * h + chanceBelow(boat);
    }

    private long digestWeek(long before, int boat, int week) {
        long h = before;
        for (int what = 0; what < 4; what++) {
            h = 31 * h + at(week, boat, what);
        }
        return h;
    }

    private long digestPerson(long before, int person) {
        int next = (person + 1) % PEOPLE;
        long h = 31 * before + named(person, 0);
        h = 31 * h + named(person, 1);
        h = 31 * h + hates(LAST_WEEK, person, next);
        int bits = seekHated(person, next);
        h = 31 * h + bits;
        return 31 * h + weekToAsk(bits);
    }

    // ---- what the calls share

    private static boolean isBelow(int number, int bound) {
        return number >= 0 && number < bound;
    }

    private static boolean areTwo(int who, int whom) {
        return isBelow(who, PEOPLE) && isBelow(whom, PEOPLE) && who != whom;
    }

    private static int pair(int who, int whom) {
        return who * PEOPLE + whom;
    }

    private boolean isBoat(int boat) {
        return isBelow(boat, told.boats);
    }

    private Text textOf(int text) {
        return text == HATES_TEXT ? hatesText : boatsText;
    }

    private void hear(int text) {
        if (text == HATES_TEXT) {
            told.hearHates(hatesText);
        } else {
            told.hearBoats(boatsText);
        }
    }

    private int find(int number) {
        finding = number;
        return -10 - number;
    }

    private void seekWrong(int boat) {
        int builder = told.builders[boat];
        best.clear();
        for (int who = 0; who < PEOPLE; who++) {
            if (who != builder) {
                trial.become(told);
                trial.hate[pair(who, builder)] = NEW_HATE;
                voyage.run(trial, LAST_WEEK);
                best.offer(who, voyage.weeksAtSea[boat]);
            }
        }
    }

    private void seekPay(int boat) {
        best.clear();
        for (int week = 0; week < WEEKS; week++) {
            trial.become(told);
            trial.addEvent(SHARE, week, boat);
            voyage.run(trial, LAST_WEEK);
            best.offer(week, voyage.weeksAtSea[boat]);
        }
    }

    /** The score is the number of sunk boats below 0, so that the fewest are the best. */
    private void seekWait(int boat) {
        trial.become(told);
        best.clear();
        for (int week = 0; week < WEEKS; week++) {
            trial.launches[boat] = week;
            voyage.run(trial, LAST_WEEK);
            best.offer(week, -voyage.howMany(SUNK));
        }
    }

    /** The events that had better not be, as bits; NONE where no two of them are enough. */
    private int spareBits() {
        trial.become(told);
        if (isSafeWithout(0)) {
            return 0;
        }
        for (int e = 0; e < told.events; e++) {
            if (isSafeWithout(1 << e)) {
                return 1 << e;
            }
        }
        for (int e = 0; e < told.events; e++) {
            for (int f = e + 1; f < told.events; f++) {
                if (isSafeWithout(1 << e | 1 << f)) {
                    return 1 << e | 1 << f;
                }
            }
        }
        return NONE;
    }

    private boolean isSafeWithout(int events) {
        trial.leftOut = events;
        voyage.run(trial, LAST_WEEK);
        return voyage.firstWeek == NONE;
    }

    private static int placeOfBit(int bits, int i) {
        int passed = 0;
        for (int place = 0; place < EVENTS; place++) {
            if ((bits >> place & 1) == 1) {
                if (passed == i) {
                    return place;
                }
                passed++;
            }
        }
        return NONE;
    }

    private boolean trialComesOutSo() {
        voyage.run(trial, LAST_WEEK);
        return sightings.fit(voyage);
    }

    /** HATED, as bits; nameRows keeps the names that each of the hates brings about. */
    private int seekHated(int who, int whom) {
        trial.become(told);
        int bits = 0;
        for (int much = 0; much <= MOST_HATE; much++) {
            trial.hate[pair(who, whom)] = much;
            if (trialComesOutSo()) {
                bits |= 1 << much;
            }
            nameRows[much] = voyage.nameRow();
        }
        return bits;
    }

    private int weekToAsk(int hatedBits) {
        best.clear();
        for (int week = 0; week < WEEKS; week++) {
            best.offer(week, -greatestGroup(hatedBits, told.rowMask(week)));
        }
        return best.which;
    }

    private int greatestGroup(int hatedBits, int mask) {
        int greatest = 0;
        for (int much = 0; much <= MOST_HATE; much++) {
            int alike = 0;
            for (int other = 0; other <= MOST_HATE; other++) {
                boolean both = (hatedBits >> much & hatedBits >> other & 1) == 1;
                if (both && ((nameRows[much] ^ nameRows[other]) & mask) == 0) {
                    alike++;
                }
            }
            greatest = Math.max(greatest, alike);
        }
        return greatest;
    }

    /** Of 16 to the power of the number of events: in how many parts each boat is sunk. */
    private void weighSunk(int c) {
        Arrays.fill(sunkWeights, 0L);
        trial.become(told);
        int ways = 1 << told.events;
        for (int leftOut = 0; leftOut < ways; leftOut++) {
            trial.leftOut = leftOut;
            long weight = trial.weight(c);
            if (weight > 0) {
                voyage.run(trial, LAST_WEEK);
                addWeight(weight);
            }
        }
    }

    private void addWeight(long weight) {
        for (int boat = 0; boat < told.boats; boat++) {
            if (voyage.states[boat] == SUNK) {
                sunkWeights[boat] += weight;
            }
        }
    }

    private long chanceAbove(int boat) {
        return sunkWeights[boat] >> sharedHalvings(boat);
    }

    private long chanceBelow(int boat) {
        return 1L << 4 * told.events - sharedHalvings(boat);
    }

    /** All parts together are a power of 2, so lowest terms are a matter of halving alone. */
    private int sharedHalvings(int boat) {
        int most = 4 * told.events;
        int halvings = 0;
        while (halvings < most && (sunkWeights[boat] >> halvings & 1) == 0) {
            halvings++;
        }
        return halvings;
    }

    /** A text that grows byte by byte up to its limit. */
    private static final class Text {
        final int[] bytes;
        int size;
        int fault;

        Text(int limit) {
            bytes = new int[limit];
            size = 0;
            fault = NONE;
        }

        boolean isFull() {
            return size >= bytes.length;
        }

        void append(int b) {
            bytes[size] = b;
            size++;
        }

        boolean has(int place, int least, int most) {
            return bytes[place] >= least && bytes[place] <= most;
        }

        int figure(int place) {
            return bytes[place] - '0';
        }

        /** The limit leaves no room for a thirteenth hate or a ninth boat, so neither is looked for. */
        void findHatesFault() {
            for (int place = 0; place < size; place++) {
                if (!isHateByte(place)) {
                    fault = place;
                    return;
                }
            }
            fault = faultOfEnd(HATE_STEP);
        }

        void findBoatsFault() {
            for (int place = 0; place < size; place++) {
                if (!isBoatByte(place)) {
                    fault = place;
                    return;
                }
            }
            fault = faultOfEnd(BOAT_STEP);
        }

        private int faultOfEnd(int step) {
            return size == 0 || size % step == step - 1 ? NONE : size;
        }

        private boolean isHateByte(int place) {
            switch (place % HATE_STEP) {
                case 0:
                    return has(place, '0', '7');
                case 1:
                    return has(place, '0', '7') && bytes[place] != bytes[place - 1];
                case 2:
                    return has(place, '1', '9');
                default:
                    return bytes[place] == ';';
            }
        }

        private boolean isBoatByte(int place) {
            switch (place % BOAT_STEP) {
                case 0:
                    return sortOf(bytes[place]) != NONE;
                case 1:
                    return has(place, '0', '7');
                case 2:
                    return has(place, 'a', 'x');
                case 3:
                    return has(place, '1', '9');
                default:
                    return bytes[place] == ';';
            }
        }

        static int sortOf(int letter) {
            switch (letter) {
                case 'l':
                    return 0;
                case 's':
                    return SMACK;
                case 't':
                    return TUB;
                default:
                    return NONE;
            }
        }
    }

    /** All that a voyage goes by: hates at first, boats and events. */
    private static final class Telling {
        final int[] hate;
        int hates;
        final int[] sorts;
        final int[] builders;
        final int[] launches;
        final int[] strengths;
        int boats;
        final int[] kinds;
        final int[] weeks;
        final int[] eventBoats;
        int events;
        int leftOut;

        Telling() {
            hate = new int[PEOPLE * PEOPLE];
            hates = 0;
            sorts = new int[BOATS];
            builders = new int[BOATS];
            launches = new int[BOATS];
            strengths = new int[BOATS];
            boats = 0;
            // One more than may be told: a plan adds a share whatever room there is.
            kinds = new int[EVENTS + 1];
            weeks = new int[EVENTS + 1];
            eventBoats = new int[EVENTS + 1];
            events = 0;
            leftOut = 0;
        }

        void become(Telling other) {
            System.arraycopy(other.hate, 0, hate, 0, PEOPLE * PEOPLE);
            System.arraycopy(other.sorts, 0, sorts, 0, BOATS);
            System.arraycopy(other.builders, 0, builders, 0, BOATS);
            System.arraycopy(other.launches, 0, launches, 0, BOATS);
            System.arraycopy(other.strengths, 0, strengths, 0, BOATS);
            boats = other.boats;
            System.arraycopy(other.kinds, 0, kinds, 0, EVENTS);
            System.arraycopy(other.weeks, 0, weeks, 0, EVENTS);
            System.arraycopy(other.eventBoats, 0, eventBoats, 0, EVENTS);
            events = other.events;
            leftOut = other.leftOut;
        }

        void hearHates(Text text) {
            text.findHatesFault();
            Arrays.fill(hate, 0);
            hates = text.fault == NONE ? (text.size + 1) / HATE_STEP : 0;
            for (int i = 0; i < hates; i++) {
                int place = HATE_STEP * i;
                hate[pair(text.figure(place), text.figure(place + 1))] = text.figure(place + 2);
            }
        }

        void hearBoats(Text text) {
            text.findBoatsFault();
            boats = text.fault == NONE ? (text.size + 1) / BOAT_STEP : 0;
            for (int i = 0; i < boats; i++) {
                int place = BOAT_STEP * i;
                sorts[i] = Text.sortOf(text.bytes[place]);
                builders[i] = text.figure(place + 1);
                launches[i] = text.bytes[place + 2] - 'a';
                strengths[i] = text.figure(place + 3);
            }
        }

        void addEvent(int kind, int week, int boat) {
            if (events <= EVENTS) {
                kinds[events] = kind;
                weeks[events] = week;
                eventBoats[events] = boat;
                events++;
            }
        }

        void drawEvents(int seed, int n) {
            events = 0;
            int lot = seed;
            for (int i = 0; i < n && boats > 0; i++) {
                int kindLot = nextSeed(lot);
                int weekLot = nextSeed(kindLot);
                lot = nextSeed(weekLot);
                addEvent((kindLot >>> 16) % KINDS, (weekLot >>> 16) % WEEKS, (lot >>> 16) % boats);
            }
        }

        private static int nextSeed(int seed) {
            return 1103515245 * seed + 12345;
        }

        boolean isEventOf(int e, int week) {
            return weeks[e] == week && (leftOut >> e & 1) == 0;
        }

        /** How many parts of 16 to the power of events fall to just those being left out that are. */
        long weight(int c) {
            long weight = 1;
            for (int e = 0; e < events; e++) {
                weight *= (leftOut >> e & 1) == 0 ? c : SIXTEENTHS - c;
            }
            return weight;
        }

        /** The bits of a voyage's name row that belong to boats launched by a week. */
        int rowMask(int week) {
            int mask = 0;
            for (int boat = 0; boat < boats; boat++) {
                if (launches[boat] <= week) {
                    mask |= 15 << 4 * boat;
                }
            }
            return mask;
        }
    }

    /** What comes of a telling, week by week. */
    private static final class Voyage {
        Telling telling;
        final int[] hate;
        final int[] states;
        final int[] names;
        final int[] grudges;
        final int[] strengths;
        final int[] weeksAtSea;
        /** Where in the hates stands what a boat bears, and where its builder's own one. */
        final int[] spites;
        final int[] returns;
        int boatsLeft;
        int firstWeek;
        int firstBoat;

        Voyage(Telling told) {
            telling = told;
            hate = new int[PEOPLE * PEOPLE];
            states = new int[BOATS];
            names = new int[BOATS];
            grudges = new int[BOATS];
            strengths = new int[BOATS];
            weeksAtSea = new int[BOATS];
            spites = new int[BOATS];
            returns = new int[BOATS];
            boatsLeft = 0;
            firstWeek = NONE;
            firstBoat = NONE;
        }

        void run(Telling told, int lastWeek) {
            begin(told);
            // Events are for boats at sea alone: when none can be there again, nothing changes.
            for (int week = 0; week <= lastWeek && boatsLeft > 0; week++) {
                sail(week);
            }
        }

        void begin(Telling told) {
            telling = told;
            System.arraycopy(told.hate, 0, hate, 0, PEOPLE * PEOPLE);
            System.arraycopy(told.strengths, 0, strengths, 0, BOATS);
            Arrays.fill(states, UNLAUNCHED);
            Arrays.fill(names, NONE);
            Arrays.fill(grudges, 0);
            Arrays.fill(weeksAtSea, 0);
            boatsLeft = told.boats;
            firstWeek = NONE;
            firstBoat = NONE;
        }

        void sail(int week) {
            for (int e = 0; e < telling.events; e++) {
                if (telling.isEventOf(e, week)) {
                    if (telling.kinds[e] == STORM) {
                        storm();
                    } else {
                        settle(telling.kinds[e], telling.eventBoats[e]);
                    }
                }
            }
            for (int boat = 0; boat < telling.boats; boat++) {
                if (telling.launches[boat] == week) {
                    launch(boat);
                }
            }
            for (int boat = 0; boat < telling.boats; boat++) {
                if (states[boat] == AT_SEA) {
                    bear(boat, week);
                }
            }
        }

        private void storm() {
            for (int boat = 0; boat < telling.boats; boat++) {
                if (states[boat] == AT_SEA) {
                    int blow = telling.sorts[boat] == TUB ? 2 : 1;
                    strengths[boat] = Math.max(0, strengths[boat] - blow);
                }
            }
        }

        private void settle(int kind, int boat) {
            if (states[boat] != AT_SEA) {
                return;
            }
            int spite = spites[boat];
            if (kind == SHARE) {
                grudges[boat] = 0;
                hate[spite] = Math.max(0, hate[spite] - 1);
            } else {
                hate[spite] = 0;
                hate[returns[boat]] = 0;
            }
        }

        private void launch(int boat) {
            int builder = telling.builders[boat];
            int enemy = worstEnemy(builder);
            if (enemy == NONE) {
                states[boat] = ROTS;
                boatsLeft--;
            } else {
                states[boat] = AT_SEA;
                names[boat] = enemy;
                spites[boat] = pair(enemy, builder);
                returns[boat] = pair(builder, enemy);
            }
        }

        private void bear(int boat, int week) {
            int hatred = hate[spites[boat]];
            grudges[boat] += telling.sorts[boat] == SMACK ? hatred / 2 : hatred;
            if (strengths[boat] == 0 || grudges[boat] > 3 * strengths[boat]) {
                sink(boat, week);
            } else {
                weeksAtSea[boat]++;
            }
        }

        private void sink(int boat, int week) {
            states[boat] = SUNK;
            boatsLeft--;
            if (hate[returns[boat]] < MOST_HATE) {
                hate[returns[boat]]++;
            }
            if (firstWeek == NONE) {
                firstWeek = week;
                firstBoat = boat;
            }
        }

        int worstEnemy(int person) {
            int worst = NONE;
            int most = 0;
            for (int who = 0; who < PEOPLE; who++) {
                int hatred = hate[who * PEOPLE + person];
                if (hatred > most) {
                    most = hatred;
                    worst = who;
                }
            }
            return worst;
        }

        int hatredOf(int person) {
            int sum = 0;
            for (int whom = 0; whom < PEOPLE; whom++) {
                sum += hate[pair(person, whom)];
            }
            return sum;
        }

        int allHatred() {
            int sum = 0;
            for (int person = 0; person < PEOPLE; person++) {
                sum += hatredOf(person);
            }
            return sum;
        }

        int howMany(int state) {
            int many = 0;
            for (int boat = 0; boat < telling.boats; boat++) {
                if (states[boat] == state) {
                    many++;
                }
            }
            return many;
        }

        int namesakes(int person, boolean sunkAlone) {
            int many = 0;
            for (int boat = 0; boat < telling.boats; boat++) {
                if (names[boat] == person && (!sunkAlone || states[boat] == SUNK)) {
                    many++;
                }
            }
            return many;
        }

        /** A name is never painted over, so the one at the end held ever since the launching. */
        int nameBehind(int week, int boat) {
            boolean isNamed = telling.launches[boat] <= week && names[boat] != NONE;
            return isNamed ? names[boat] : NOBODY;
        }

        /** All names in one number, four bits for each boat. */
        int nameRow() {
            int row = 0;
            for (int boat = 0; boat < telling.boats; boat++) {
                row |= nameBehind(LAST_WEEK, boat) << 4 * boat;
            }
            return row;
        }
    }

    /** What was seen of the names of boats. */
    private static final class Sightings {
        final int[] weeks;
        final int[] boats;
        final int[] people;
        int size;

        Sightings() {
            weeks = new int[SIGHTINGS];
            boats = new int[SIGHTINGS];
            people = new int[SIGHTINGS];
            size = 0;
        }

        void append(int week, int boat, int person) {
            weeks[size] = week;
            boats[size] = boat;
            people[size] = person;
            size++;
        }

        boolean fit(Voyage voyage) {
            for (int i = 0; i < size; i++) {
                boolean isThere = boats[i] < voyage.telling.boats;
                if (!isThere || voyage.nameBehind(weeks[i], boats[i]) != people[i]) {
                    return false;
                }
            }
            return true;
        }
    }

    /** The first one offered of those with the greatest score. */
    private static final class Best {
        int which;
        int score;

        Best() {
            which = NONE;
            score = 0;
        }

        void clear() {
            which = NONE;
            score = 0;
        }

        void offer(int one, int itsScore) {
            if (which == NONE || itsScore > score) {
                which = one;
                score = itsScore;
            }
        }
    }

    /** A row of items of one form, or a lost one. */
    private static final class Sheet {
        final int[] items;
        int form;
        int size;
        boolean lost;

        Sheet() {
            items = new int[MOST_ITEMS];
            form = 0;
            size = 0;
            lost = true;
        }

        void renew(int newForm, int n) {
            Arrays.fill(items, 0);
            form = newForm;
            size = n;
            lost = false;
        }

        /** The number of the finding for an item treated as of a form; 0 where all is well. */
        int findingAt(int treatedAs, int i) {
            if (lost) {
                return NULL;
            }
            if (form != treatedAs) {
                return CAST;
            }
            return isBelow(i, size) ? 0 : INDEX;
        }

        boolean hasItems(int from, int n) {
            return from >= 0 && n >= 0 && n <= size && from <= size - n;
        }

        void set(int i, int v) {
            items[i] = form == 0 ? (byte) v : form == 1 ? (short) v : v;
        }
    }
}
