import java.math.BigInteger;

/** Promises 23 to 30 at their edges: what was seen and what it leaves open, chances, decades by a seed. */
public final class SeenEdgesTest {
    private static final int BAD = Edges.BAD, FULL = Edges.FULL;
    private static final int STORM = 0, SHARE = 1, MADE_UP = 2;

    public static void main(String[] args) {
        Edges.run(SeenEdgesTest.class);
    }

    private static void due(String what, long got, long want) {
        Edges.due(what, got, want);
    }

    private static BoatNames told(String hates, String boats, int... events) {
        return Edges.with(Edges.told(hates, boats), events);
    }

    private static BoatNames saw(BoatNames x, int week, int boat, int person) {
        x.seen(week, boat, person);
        return x;
    }

    private static void leavesAll(Edges.Call call) {
        for (Edges.Scene scene : Edges.SCENES) {
            BoatNames x = scene.make();
            call.on(x);
            Edges.same("what is held", Edges.look(x), Edges.look(scene.make()));
        }
    }

    // ---- Promise 23: "SEEN more: how many. BAD; FULL."

    /** Terms: "SEEN, 8 at most". */
    static void promise23_seen_eightAreTakenAndTheNinthIsFull() {
        BoatNames x = new BoatNames();
        for (int n = 1; n <= 8; n++) {
            due("seen " + n, x.seen(0, 0, 0), n);
        }
        due("seen 9", x.seen(0, 0, 0), FULL);
        due("eight", x.count(7), 8);
        Edges.refused(Edges.ALL, "a ninth", y -> y.seen(23, 7, 0), FULL);
        Edges.refused(Edges.ALL, "one like another", y -> y.seen(0, 0, 2), FULL);
    }

    static void promise23_seen_weeks0To23AndNoOthers() {
        due("week 0", new BoatNames().seen(0, 0, 0), 1);
        due("week 23", new BoatNames().seen(23, 0, 0), 1);
        Edges.badAround("week", 23, (x, week) -> x.seen(week, 0, 0));
    }

    /** Terms: "a BOAT (0 to 7)", whether it is there or not. */
    static void promise23_seen_boats0To7AndNoOthers() {
        due("boat 0", new BoatNames().seen(0, 0, 0), 1);
        due("boat 7", new BoatNames().seen(0, 7, 0), 1);
        Edges.badAround("boat", 7, (x, boat) -> x.seen(0, boat, 0));
    }

    /** Terms: "a PERSON (0 to 7; 8: after nobody". */
    static void promise23_seen_people0To8AndNoOthers() {
        due("person 0", new BoatNames().seen(0, 0, 0), 1);
        due("person 7", new BoatNames().seen(0, 0, 7), 1);
        due("nobody", new BoatNames().seen(0, 0, 8), 1);
        Edges.badAround("person", 8, (x, person) -> x.seen(0, 0, person));
    }

    static void promise23_seen_badIsAheadOfFull() {
        Edges.refused(Edges.ALL, "week", x -> x.seen(24, 0, 0), BAD);
        Edges.refused(Edges.ALL, "boat", x -> x.seen(0, 8, 0), BAD);
        Edges.refused(Edges.ALL, "person", x -> x.seen(0, 0, 9), BAD);
    }

    static void promise23_seen_theEighthCountsAsTheFirstDoes() {
        BoatNames x = told("105", "l0a9");
        for (int i = 0; i < 7; i++) {
            x.seen(i, 0, 1);
        }
        due("it can be", x.hated(2, 1), 1023);
        x.seen(7, 0, 2);
        due("not with the eighth", x.hated(2, 1), 0);
    }

    // ---- Promise 24: "All SEEN are forgotten: how many."

    static void promise24_forget_noneAndAllEight() {
        due("none", new BoatNames().forget(), 0);
        BoatNames x = Edges.ALL.make();
        due("eight", x.forget(), 8);
        due("none is left", x.count(7), 0);
        due("again", x.forget(), 0);
        due("then one is the first", x.seen(0, 0, 0), 1);
    }

    static void promise24_forget_thereIsRoomForEightAgain() {
        BoatNames x = Edges.ALL.make();
        x.forget();
        for (int n = 1; n <= 8; n++) {
            due("seen " + n, x.seen(23, 7, 8), n);
        }
        due("no more", x.seen(23, 7, 8), FULL);
    }

    static void promise24_forget_changesNothingElse() {
        BoatNames never = told("103;205", "l0a5;s0b9", STORM, 3, 0, SHARE, 4, 1);
        BoatNames forgot = told("103;205", "l0a5;s0b9", STORM, 3, 0, SHARE, 4, 1);
        Edges.row(never, 1, 1, 300, -300);
        Edges.row(forgot, 1, 1, 300, -300);
        for (int i = 0; i < 8; i++) {
            forgot.seen(i, i, i);
        }
        forgot.forget();
        Edges.same("as if nothing had been seen", Edges.look(forgot), Edges.look(never));
    }

    // ---- Terms: "of one that there is not nothing ever comes out so"

    static void terms_seen_ofABoatThatThereIsNotNothingComesOutSo() {
        for (int person = 0; person <= 8; person++) {
            BoatNames x = saw(told("105", "l0a9", STORM, 1, 0), 0, 1, person);
            due("never", x.never(), 0);
            due("sort", x.sort(0), 0);
            due("hated", x.hated(1, 0), 0);
            due("ask", x.ask(1, 0), 0);
            BoatNames none = saw(told("105", "", STORM, 1, 0), 23, 0, person);
            due("no boats, never", none.never(), 0);
            due("no boats, hated", none.hated(1, 0), 0);
        }
        BoatNames last = saw(told("105", Edges.times("l0a9", 7), STORM, 1, 0), 0, 7, 8);
        due("the eighth of seven", last.never(), 0);
        last = saw(told("105", Edges.times("l0x9", 8), STORM, 1, 0), 0, 7, 8);
        due("the eighth of eight", last.never(), 1);
    }

    static void terms_seen_ofABoatThatThereIsByThen() {
        BoatNames x = saw(told("105", "l0a9", STORM, 1, 0), 0, 1, 1);
        due("not there yet", x.never(), 0);
        Edges.typeAll(x, 1, ";l0a9");
        due("there now", x.never(), 1);
        x.type(1, ';');
        due("with a fault none is there", x.never(), 0);
    }

    /** Terms: "8: after nobody, not launched yet, or left to ROT". */
    static void terms_seen_nobodyIsNotLaunchedYetOrLeftToRot() {
        BoatNames x = told("105", "l0b9;l3c9", STORM, 1, 0);
        due("not launched yet", saw(x, 0, 0, 8).never(), 1);
        x.forget();
        due("launched", saw(x, 1, 0, 8).never(), 0);
        x.forget();
        due("not left to rot yet", saw(x, 1, 1, 8).never(), 1);
        due("left to rot", saw(x, 2, 1, 8).never(), 1);
        due("for ever", saw(x, 23, 1, 8).never(), 1);
        due("but not after somebody", saw(x, 23, 1, 0).never(), 0);
    }

    static void terms_seen_aNameStaysWhenItIsSunk() {
        BoatNames x = told("109", "l0b1", STORM, 0, 0);
        due("in its week", saw(x, 1, 0, 1).never(), 1);
        due("in week 23", saw(x, 23, 0, 1).never(), 1);
        due("ahead of it", saw(x, 0, 0, 1).never(), 0);
    }

    // ---- Promise 25: "NEVER, as bits."

    static void promise25_never_noEventsAndAllEight() {
        due("no events", told("105", "l0a9").never(), 0);
        due("nothing seen", Edges.FAULTY.make().never(), 0);
        BoatNames x = told("105", "l0a9");
        for (int e = 1; e <= 8; e++) {
            x.event(STORM, 23, 0);
            due(e + " events", x.never(), (1 << e) - 1);
        }
        due("all that was seen is so with each", saw(x, 0, 0, 1).never(), 255);
        due("never so", saw(x, 0, 0, 2).never(), 0);
    }

    /** Terms: "had it alone not been". */
    static void promise25_never_oneAloneIsLeftOut() {
        BoatNames x = told("105;204", "l0a9;l0c9", MADE_UP, 1, 0);
        due("made up once", saw(x, 2, 1, 1).never(), 1);
        x.event(MADE_UP, 1, 0);
        due("made up twice, neither alone", x.never(), 0);
        x.forget();
        due("either alone", saw(x, 2, 1, 2).never(), 3);
    }

    static void promise25_never_theEighthEventAlone() {
        BoatNames x = told("105;204", "l0a9;l0c9");
        for (int e = 0; e < 7; e++) {
            x.event(SHARE, 23, 7);
        }
        x.event(MADE_UP, 2, 0);
        due("the eighth", saw(x, 2, 1, 1).never(), 128);
    }

    static void promise25_never_leavesAllAsItWas() {
        leavesAll(x -> x.never());
    }

    // ---- Promise 26: "SORT, as bits. BAD."

    static void promise26_sort_theLastBoatThatThereIsAndTheNext() {
        due("the last of eight", told("", Edges.times("l0a9", 8)).sort(7), 7);
        Edges.badBoats("boat", (x, b) -> x.sort(b), BAD);
    }

    static void promise26_sort_noneEachAndAll() {
        // A lugger or a tub is sunk in week 2, a smack in week 4; a storm in week 1 sinks a tub of 2.
        due("nothing seen", told("104", "l0a3;l1d9").sort(0), 7);
        due("never so", saw(told("104", "l0a3;l1d9"), 3, 1, 5).sort(0), 0);
        due("a lugger or a tub", saw(told("104", "s0a3;l1d9"), 3, 1, 0).sort(0), 5);
        due("a smack", saw(told("104", "l0a3;l1d9"), 3, 1, 8).sort(0), 2);
        due("a tub", saw(told("101", "l0a2;l1c9", STORM, 1, 0), 2, 1, 0).sort(0), 4);
        due("a lugger or a smack", saw(told("101", "t0a2;l1c9", STORM, 1, 0), 2, 1, 8).sort(0), 3);
    }

    static void promise26_sort_leavesAllAsItWas() {
        leavesAll(x -> x.sort(0) + x.sort(2));
    }

    // ---- Promise 27: "HATED, as bits. BAD (one and the same, too)."

    static void promise27_hated_people0To7AndNoOthers() {
        due("7 and 0", new BoatNames().hated(7, 0), 1023);
        due("0 and 7", new BoatNames().hated(0, 7), 1023);
        Edges.badAround("who", 7, (x, p) -> x.hated(p, 1));
        Edges.badAround("whom", 7, (x, p) -> x.hated(1, p));
    }

    static void promise27_hated_oneAndTheSameIsBad() {
        for (int p = 0; p < 8; p++) {
            int same = p;
            Edges.bad("person " + p, x -> x.hated(same, same));
        }
    }

    /** Terms: "0 to 9 at first, in place of what is told". */
    static void promise27_hated_0To9() {
        due("nothing seen, all ten", told("105", "l0a9").hated(1, 0), 1023);
        due("0 alone", saw(told("105", "l0a9"), 0, 0, 8).hated(1, 0), 1);
        due("all but 0", saw(told("105", "l0a9"), 0, 0, 1).hated(1, 0), 1022);
        due("9 alone, as the least of like ones", saw(told("209", "l0a9"), 0, 0, 1).hated(1, 0), 512);
        due("8 and 9", saw(told("208", "l0a9"), 0, 0, 1).hated(1, 0), 768);
        due("all but 9", saw(told("209", "l0a9"), 0, 0, 2).hated(1, 0), 511);
        due("none, 10 would be", saw(told("209", "l0a9"), 0, 0, 3).hated(3, 0), 0);
    }

    static void promise27_hated_leavesAllAsItWas() {
        leavesAll(x -> x.hated(1, 0) + x.hated(0, 7));
    }

    // ---- Promise 28: "ASK. BAD (one and the same, too)."

    static void promise28_ask_people0To7AndNoOthers() {
        due("7 and 0", told("", "l0m9").ask(7, 0), 12);
        due("0 and 7", told("", "l7m9").ask(0, 7), 12);
        Edges.badAround("who", 7, (x, p) -> x.ask(p, 1));
        Edges.badAround("whom", 7, (x, p) -> x.ask(1, p));
    }

    static void promise28_ask_oneAndTheSameIsBad() {
        for (int p = 0; p < 8; p++) {
            int same = p;
            Edges.bad("person " + p, x -> x.ask(same, same));
        }
    }

    static void promise28_ask_weeks0To23() {
        due("week 0", told("", "l0a9").ask(1, 0), 0);
        due("week 22", told("", "l0w9").ask(1, 0), 22);
        due("week 23", told("", "l0x9").ask(1, 0), 23);
    }

    static void promise28_ask_ofLikeOnesTheLeast() {
        due("no boats", told("105", "").ask(1, 0), 0);
        due("nothing to learn", told("105", "l3x9").ask(1, 0), 0);
        due("later ones tell no more", told("", "l0c9;l0e9;l0x9").ask(1, 0), 2);
    }

    static void promise28_ask_noneAndOneOfHatedLeft() {
        due("none", saw(told("105", "l0x9"), 23, 0, 5).ask(1, 0), 0);
        due("one", saw(told("105", "l0x9"), 23, 0, 8).ask(1, 0), 0);
        due("nine, all alike", saw(told("105", "l0x9"), 23, 0, 1).ask(1, 0), 0);
    }

    /** The greatest of the groups counts, not how many groups there are. */
    static void promise28_ask_theGreatestNumberIsLeast() {
        // Behind week 2: 0 rots and 1 to 9 are named; behind week 4 shares have made 1 and 2 nothing, too.
        due("7 is less than 9", told("105", "l0a9;l0e9", SHARE, 1, 0, SHARE, 2, 0).ask(1, 0), 4);
        // 3 and 7 behind week 2; a boat more of another one tells nothing more.
        due("7 at once", told("105;203", "l0c9;l3e9").ask(1, 0), 2);
    }

    /** "by which all BOATS are NAMED alike": all of them together, not the latest one alone. */
    static void promise28_ask_allBoatsTogether() {
        // By boat 0: up to 4, and 5 on. By boat 1, behind a share: 0 to 3 and 5, and 4 and 6 on. Together 4 at most.
        due("two boats", told("205", "l0c9;l0e9", SHARE, 3, 0).ask(1, 0), 4);
    }

    static void promise28_ask_anyTwoNamesAreUnlike() {
        for (int who = 1; who < 8; who++) {
            for (int other = 1; other < 8; other++) {
                if (who != other) {
                    due(who + " and " + other, told(other + "05", "l0m9").ask(who, 0), 12);
                }
            }
            due(who + " and nobody", told("", "l0m9").ask(who, 0), 12);
        }
        due("0 and nobody", told("", "l7m9").ask(0, 7), 12);
        due("0 and 4", told("475", "l7m9").ask(0, 7), 12);
    }

    static void promise28_ask_anyOfEightBoats() {
        for (int place = 0; place < 8; place++) {
            String[] boats = new String[8];
            java.util.Arrays.fill(boats, "l4a9");
            boats[place] = "l0m9";
            due("boat " + place, told("205", String.join(";", boats)).ask(3, 0), 12);
        }
    }

    static void promise28_ask_0And9CountAmongThem() {
        due("0 alone is unlike", told("", "l0m9").ask(1, 0), 12);
        due("9 alone is unlike", told("209", "l0m9").ask(1, 0), 12);
        due("10 would be", told("209", "l0m9").ask(3, 0), 0);
    }

    static void promise28_ask_leavesAllAsItWas() {
        leavesAll(x -> x.ask(1, 0) + x.ask(0, 7));
    }

    // ---- Promise 29: "CHANCE: above, below. BAD. (As the least long.)"

    private static void chanceIs(String what, BoatNames x, int c, int boat, long above, long below) {
        due(what + ", above", x.chance(c, boat, 0), above);
        due(what + ", below", x.chance(c, boat, 1), below);
    }

    /** "Where the answer is a long, a refusal -x is the least long and x more." */
    static void promise29_chance_badIsTheLeastLongAnd2More() {
        due("the least long and 2", new BoatNames().chance(0, 0, 0), -9223372036854775806L);
    }

    static void promise29_chance_sixteenths0To16AndNoOthers() {
        BoatNames x = told("101", "s0a1", STORM, 1, 0);
        chanceIs("0", x, 0, 0, 0, 1);
        chanceIs("16", x, 16, 0, 1, 1);
        Edges.refusedAround(Edges.SOME, "c", 16, (y, c) -> y.chance(c, 0, 0), Edges.LONG_BAD);
        Edges.refusedAround(Edges.ALL, "c", 16, (y, c) -> y.chance(c, 7, 1), Edges.LONG_BAD);
    }

    static void promise29_chance_theLastBoatThatThereIsAndTheNext() {
        chanceIs("the last of eight", told("109", Edges.times("l0a1", 8)), 3, 7, 1, 1);
        Edges.badBoats("boat", (x, b) -> x.chance(5, b, 0), Edges.LONG_BAD);
    }

    static void promise29_chance_what0And1AndNoOthers() {
        Edges.refusedAround(Edges.SOME, "what", 1, (x, what) -> x.chance(5, 0, what), Edges.LONG_BAD);
        Edges.refusedAround(Edges.ALL, "what", 1, (x, what) -> x.chance(5, 0, what), Edges.LONG_BAD);
    }

    static void promise29_chance_noEvents() {
        for (int c = 0; c <= 16; c++) {
            chanceIs("at sea", told("101", "s0a1"), c, 0, 0, 1);
            chanceIs("it rots", told("", "s0a1"), c, 0, 0, 1);
            chanceIs("sunk", told("109", "l0a1"), c, 0, 1, 1);
            chanceIs("sunk in week 23", told("109", "l0x1"), c, 0, 1, 1);
        }
    }

    /** Terms: "the chance that a BOAT is SUNK by WEEK 23". */
    static void promise29_chance_week24IsTooLate() {
        chanceIs("sunk in week 24", told("102", "l0x1"), 5, 0, 0, 1);
        chanceIs("sunk in week 23", told("102", "l0w1"), 5, 0, 1, 1);
    }

    /** Terms: "FRACTIONS are told in lowest terms, above and below (0 by 1)." */
    static void promise29_chance_isInLowestTerms() {
        int[][] lowest = {{0, 1}, {1, 16}, {1, 8}, {3, 16}, {1, 4}, {5, 16}, {3, 8}, {7, 16}, {1, 2}, {9, 16}, {5, 8},
            {11, 16}, {3, 4}, {13, 16}, {7, 8}, {15, 16}, {1, 1}};
        BoatNames x = told("101", "s0a1", STORM, 1, 0);
        for (int c = 0; c <= 16; c++) {
            chanceIs("by " + c, x, c, 0, lowest[c][0], lowest[c][1]);
        }
        x.event(SHARE, 7, 7);
        for (int c = 0; c <= 16; c++) {
            chanceIs("by " + c + ", beside one that does nothing", x, c, 0, lowest[c][0], lowest[c][1]);
        }
    }

    /** Eight events: the chance of any storm at all is 1 less the eighth power of the chance of none. */
    static void promise29_chance_ofEightEventsIsExact() {
        BoatNames x = told("101", "s0a1");
        for (int e = 0; e < 8; e++) {
            x.event(STORM, 23, 0);
        }
        BigInteger whole = BigInteger.valueOf(16).pow(8);
        for (int c = 0; c <= 16; c++) {
            BigInteger above = whole.subtract(BigInteger.valueOf(16 - c).pow(8));
            BigInteger shared = above.gcd(whole);
            chanceIs("by " + c, x, c, 0, above.divide(shared).longValueExact(), whole.divide(shared).longValueExact());
        }
    }

    static void promise29_chance_ofAllEightIsExact() {
        BoatNames x = told("101", "s0a8");
        for (int e = 0; e < 8; e++) {
            x.event(STORM, 23, 0);
        }
        chanceIs("by 1", x, 1, 0, 1, 1L << 32);
        chanceIs("by 15", x, 15, 0, 2562890625L, 1L << 32);
        chanceIs("by 8", x, 8, 0, 1, 256);
        chanceIs("by 16", x, 16, 0, 1, 1);
        chanceIs("by 0", x, 0, 0, 0, 1);
    }

    static void promise29_chance_leavesAllAsItWas() {
        for (Edges.Scene scene : new Edges.Scene[] {Edges.SOME, Edges.ALL}) {
            BoatNames x = scene.make();
            x.chance(5, 2, 0);
            x.chance(16, 0, 1);
            Edges.same("what is held", Edges.look(x), Edges.look(scene.make()));
        }
    }

    // ---- Promise 30: "DECADES: how many are SUNK (what = 0), at SEA (1). BAD."

    private static final String[][] VILLAGES = {
        {"103;205", "l0b4;s0f6;t0j9"}, {"101", "s0a1"}, {"109;019", "l0a9;t1a9"},
        {"103;205;301;012;716;527;034;121;643;416;255;378", "l0a5;s1b3;t2c9;l3d1;s4e6;t0f8;l5g7;s1h2"},
    };

    /** LOTS told once more: in numbers that do not wrap by themselves. */
    private static int[] lots(int seed, int n, int boats) {
        BigInteger whole = BigInteger.ONE.shiftLeft(32);
        BigInteger lot = BigInteger.valueOf(seed).mod(whole);
        int[] events = new int[3 * n];
        for (int i = 0; i < events.length; i++) {
            lot = lot.multiply(BigInteger.valueOf(1103515245)).add(BigInteger.valueOf(12345)).mod(whole);
            int[] bounds = {3, 24, boats};
            events[i] = lot.shiftRight(16).intValueExact() % bounds[i % 3];
        }
        return events;
    }

    private static void decadesAreAsTold(int seed, int n, String[] village) {
        BoatNames x = told(village[0], village[1], STORM, 3, 0, MADE_UP, 2, 0);
        int boats = x.count(1);
        BoatNames drawn = told(village[0], village[1], lots(seed, n, boats));
        due("sunk by " + seed + ", " + n, x.decades(seed, n, 0), drawn.count(5));
        due("at sea by " + seed + ", " + n, x.decades(seed, n, 1), drawn.afloat(23));
    }

    static void promise30_decades_0To8EventsAndNoOthers() {
        for (String[] village : VILLAGES) {
            for (int n = 0; n <= 8; n++) {
                decadesAreAsTold(7, n, village);
            }
        }
        Edges.badAround("n", 8, (x, n) -> x.decades(7, n, 0));
    }

    static void promise30_decades_what0And1AndNoOthers() {
        Edges.badAround("what", 1, (x, what) -> x.decades(7, 6, what));
    }

    /** Terms: "as ints that wrap; its upper 16 bits as a number from 0 on". */
    static void promise30_decades_anySeedWraps() {
        int[] seeds = {0, 1, -1, Edges.LEAST, Edges.MOST, Edges.LEAST + 1, 1 << 16, 1 << 31 >> 5, -12345, 65535, -65536};
        for (String[] village : VILLAGES) {
            for (int seed : seeds) {
                decadesAreAsTold(seed, 8, village);
            }
            for (int seed = -100; seed < 100; seed++) {
                decadesAreAsTold(seed, 5, village);
            }
        }
    }

    /** Terms: "(none where there are no BOATS)". */
    static void promise30_decades_noBoatsNoEvents() {
        for (int n = 0; n <= 8; n++) {
            due("no boats, sunk", told("109", "").decades(1, n, 0), 0);
            due("no boats, at sea", told("109", "").decades(1, n, 1), 0);
            due("with a fault", told("109", "l0a1;").decades(1, n, 0), 0);
        }
    }

    static void promise30_decades_noneAndAllEight() {
        due("all sunk", told("109", Edges.times("l0a1", 8)).decades(1, 0, 0), 8);
        due("none at sea", told("109", Edges.times("l0a1", 8)).decades(1, 0, 1), 0);
        due("none sunk", told("101", Edges.times("s0a9", 8)).decades(1, 0, 0), 0);
        due("all at sea", told("101", Edges.times("s0a9", 8)).decades(1, 0, 1), 8);
        due("launched in week 23", told("101", "s0x9").decades(1, 0, 1), 1);
        due("sunk in week 23", told("109", "l0x1").decades(1, 0, 0), 1);
        due("sunk in week 24", told("102", "l0x1").decades(1, 0, 0), 0);
        due("at sea till then", told("102", "l0x1").decades(1, 0, 1), 1);
        due("one that rots is neither", told("", "l0a1").decades(1, 0, 0) + told("", "l0a1").decades(1, 0, 1), 0);
    }

    static void promise30_decades_leavesAllAsItWas() {
        leavesAll(x -> x.decades(7, 6, 0) + x.decades(-1, 8, 1) + x.decades(0, 0, 0));
    }
}
