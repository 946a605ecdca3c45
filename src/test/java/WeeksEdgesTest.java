/** The terms of a week and promises 11 to 18 at their edges: what comes of what is told. */
public final class WeeksEdgesTest {
    private static final int NONE = Edges.NONE, BAD = Edges.BAD;
    private static final int STORM = 0, SHARE = 1, MADE_UP = 2;
    private static final int UNLAUNCHED = 0, SEA = 1, SUNK = 2, ROTS = 3;

    public static void main(String[] args) {
        Edges.run(WeeksEdgesTest.class);
    }

    private static void due(String what, long got, long want) {
        Edges.due(what, got, want);
    }

    private static BoatNames told(String hates, String boats, int... events) {
        return Edges.with(Edges.told(hates, boats), events);
    }

    // ---- Terms: "by a STORM each BOAT that is at SEA has STRENGTH less by 1, a tub by 2, 0 at least"

    static void terms_storm_takes1AndDownTo0AtLeast() {
        for (String sort : new String[] {"l", "s"}) {
            BoatNames x = told("101", sort + "0a2", STORM, 1, 0);
            due(sort + " of 2", x.at(1, 0, 3), 1);
            due(sort + " of 2 is at sea", x.at(1, 0, 0), SEA);
            x = told("101", sort + "0a1", STORM, 1, 0);
            due(sort + " of 1", x.at(1, 0, 3), 0);
            due(sort + " of 1 is sunk", x.at(1, 0, 0), SUNK);
            x = told("101", sort + "0a1", STORM, 1, 0, STORM, 1, 0);
            due(sort + " of 1, two storms", x.at(1, 0, 3), 0);
        }
    }

    static void terms_storm_takes2OfATubAndDownTo0AtLeast() {
        Edges.at("a tub of 3", told("101", "t0a3", STORM, 1, 0), 1, 0, SEA, 1, 2, 1);
        Edges.at("a tub of 2", told("101", "t0a2", STORM, 1, 0), 1, 0, SUNK, 1, 2, 0);
        Edges.at("a tub of 1", told("101", "t0a1", STORM, 1, 0), 1, 0, SUNK, 1, 2, 0);
        Edges.at("a tub of 3, two storms", told("101", "t0a3", STORM, 1, 0, STORM, 1, 0), 1, 0, SUNK, 1, 2, 0);
    }

    static void terms_storm_eightOfThemDownTo0AtLeast() {
        BoatNames x = told("101", "l0a9;t0a9;s0a8");
        for (int e = 0; e < 8; e++) {
            x.event(STORM, 1, 0);
        }
        Edges.at("9 less 8", x, 1, 0, SEA, 1, 2, 1);
        Edges.at("9 less 16", x, 1, 1, SUNK, 1, 2, 0);
        Edges.at("8 less 8", x, 1, 2, SUNK, 1, 0, 0);
    }

    static void terms_storm_leavesABoatThatIsNotAtSea() {
        Edges.at("the week ahead of its launching", told("101", "l0b5", STORM, 0, 0), 0, 0, UNLAUNCHED, NONE, 0, 5);
        Edges.at("the week of its launching", told("101", "l0b5", STORM, 1, 0), 1, 0, SEA, 1, 1, 5);
        Edges.at("the week behind its launching", told("101", "l0b5", STORM, 2, 0), 2, 0, SEA, 1, 2, 4);
        Edges.at("it rots", told("", "l0a5", STORM, 1, 0), 1, 0, ROTS, NONE, 0, 5);
        Edges.at("it is sunk", told("109", "l0a2", STORM, 1, 0), 1, 0, SUNK, 1, 9, 2);
    }

    /** Terms: "0 a STORM (whichever BOAT is told)". */
    static void terms_storm_isForAllWhicheverBoatIsTold() {
        for (int boat = 0; boat < 8; boat++) {
            BoatNames x = told("101", "l0a5;s0a5", STORM, 1, boat);
            due("boat 0", x.at(1, 0, 3), 4);
            due("boat 1", x.at(1, 1, 3), 4);
        }
    }

    static void terms_storm_ofWeek23IsTheLast() {
        BoatNames x = told("101", "s0a1", STORM, 23, 0);
        due("behind week 22", x.at(22, 0, 0), SEA);
        due("behind week 23", x.at(23, 0, 0), SUNK);
    }

    // ---- Terms: "by a SHARE of a BOAT that is at SEA its GRUDGE is 0, and its BUILDER is hated by 1
    // less by whom it is NAMED after, 0 at least"

    static void terms_share_makesTheGrudge0AndTheHate1Less() {
        BoatNames x = told("109", "l0a9", SHARE, 1, 0);
        Edges.at("it bears the week's own alone", x, 1, 0, SEA, 1, 8, 9);
        due("the hate", x.hates(1, 1, 0), 8);
        due("the week ahead", x.hates(0, 1, 0), 9);
    }

    static void terms_share_theHateIs0AtLeast() {
        BoatNames x = told("101;013", "l0a9", SHARE, 1, 0, SHARE, 2, 0, SHARE, 2, 0);
        due("1 less 1", x.hates(1, 1, 0), 0);
        due("0 less 1", x.hates(2, 1, 0), 0);
        due("the builder's own", x.hates(2, 0, 1), 3);
        Edges.at("nothing is borne", x, 23, 0, SEA, 1, 0, 9);
    }

    static void terms_share_leavesABoatThatIsNotAtSea() {
        BoatNames x = told("104", "l0b9", SHARE, 0, 0, SHARE, 1, 0);
        Edges.at("the week of its launching", x, 1, 0, SEA, 1, 4, 9);
        due("the hate", x.hates(1, 1, 0), 4);
        x = told("109", "l0a2", SHARE, 1, 0);
        Edges.at("it is sunk", x, 1, 0, SUNK, 1, 9, 2);
        due("the hate", x.hates(1, 1, 0), 9);
        x = told("", "l0a2", SHARE, 1, 0);
        Edges.at("it rots", x, 1, 0, ROTS, NONE, 0, 2);
        due("no hate", x.count(6), 0);
    }

    static void terms_share_isOfTheToldBoatAlone() {
        BoatNames x = told("104", "l0a9;l0a9", SHARE, 1, 1);
        Edges.at("the other one bears less, too", x, 1, 0, SEA, 1, 7, 9);
        Edges.at("its own", x, 1, 1, SEA, 1, 3, 9);
    }

    // ---- Terms: "by MADE UP of a BOAT that is at SEA neither of both hates the other one any more"

    static void terms_madeUp_neitherOfBothAndNobodyElse() {
        BoatNames x = told("109;019;203;024;125", "l0a9", MADE_UP, 1, 0);
        due("the named one", x.hates(1, 1, 0), 0);
        due("the builder", x.hates(1, 0, 1), 0);
        due("another one", x.hates(1, 2, 0), 3);
        due("the builder another one", x.hates(1, 0, 2), 4);
        due("the named one another one", x.hates(1, 1, 2), 5);
        Edges.at("the grudge stays, the name, too", x, 23, 0, SEA, 1, 9, 9);
        due("it was not yet", x.hates(0, 1, 0) + x.hates(0, 0, 1), 18);
    }

    static void terms_madeUp_leavesABoatThatIsNotAtSea() {
        BoatNames x = told("104;015", "l0b9", MADE_UP, 1, 0);
        due("the week of its launching", x.hates(1, 1, 0) * 10 + x.hates(1, 0, 1), 45);
        due("the week behind", told("104;015", "l0b9", MADE_UP, 2, 0).count(6), 0);
        due("it is sunk", told("109;015", "l0a2", MADE_UP, 1, 0).hates(23, 1, 0), 9);
        due("it rots", told("015", "l0a9", MADE_UP, 1, 0).hates(23, 0, 1), 5);
    }

    // ---- Terms: "In a WEEK first its EVENTS are done ... Then BOATS whose WEEK it is are launched ...
    // Then BOATS that are at SEA, by numbers"

    static void terms_week_eventsAreAheadOfLaunching() {
        BoatNames x = told("104;203", "l0a9;l0b9", MADE_UP, 1, 0);
        due("named after the next one", x.at(1, 1, 1), 2);
        x = told("104", "l0a9;l0b9", MADE_UP, 1, 0);
        due("nobody is left", x.at(1, 1, 0), ROTS);
    }

    static void terms_week_launchingIsAheadOfSinking() {
        BoatNames x = told("102", "l0a1;l1b9;l1c9");
        due("boat 0 is sunk in week 1", x.first(0), 1);
        due("launched in week 1 it rots", x.at(1, 1, 0), ROTS);
        due("launched in week 2 it is named", x.at(2, 2, 1), 0);
    }

    static void terms_week_boatsAtSeaGoByNumbers() {
        BoatNames x = told("102;011", "l0a1;l1a9");
        due("0 is sunk in week 1", x.at(1, 0, 0), SUNK);
        due("1 bears it in the same week", x.at(1, 1, 2), 3);
        x = told("102;011", "l1a9;l0a1");
        due("1 is sunk in week 1", x.at(1, 1, 0), SUNK);
        due("0 does not bear it yet", x.at(1, 0, 2), 2);
        due("0 bears it in the next week", x.at(2, 0, 2), 4);
    }

    static void terms_week_aBoatBearsInTheWeekOfItsLaunching() {
        Edges.at("week 23", told("105", "l0x9"), 22, 0, UNLAUNCHED, NONE, 0, 9);
        Edges.at("week 23", told("105", "l0x9"), 23, 0, SEA, 1, 5, 9);
    }

    // ---- Terms: "one is NAMED after who hates its BUILDER most then, of like ones the least ...; if
    // nobody does, it ROTS"

    static void terms_launch_ofLikeOnesTheLeast() {
        due("of 3, 5, 7", told("705;505;305", "l0a9").at(0, 0, 1), 3);
        due("of all seven", told("671;571;471;371;271;171;071", "l7a9").at(0, 0, 1), 0);
        due("of all seven", told("701;601;501;401;301;201;101", "l0a9").at(0, 0, 1), 1);
        due("one more is more", told("305;505;706", "l0a9").at(0, 0, 1), 7);
        due("the last one alone", told("701", "l0a9").at(0, 0, 1), 7);
    }

    static void terms_launch_hatedBy1IsEnoughAndBy0ItRots() {
        Edges.at("by 1", told("101", "l0a9"), 0, 0, SEA, 1, 1, 9);
        Edges.at("by 0", told("011;121", "l0a9"), 0, 0, ROTS, NONE, 0, 9);
        Edges.at("it stays so", told("011;121", "l0a9"), 23, 0, ROTS, NONE, 0, 9);
        BoatNames x = told("101", "l0a9;l0c9", SHARE, 2, 0);
        due("by 1 less 1", x.at(2, 1, 0), ROTS);
    }

    static void terms_launch_theNameStaysWhoeverHatesMostLater() {
        BoatNames x = told("105;204", "l0a9", SHARE, 1, 0, SHARE, 2, 0);
        due("1 hates by 3 now, 2 by 4", x.hates(2, 1, 0) * 10 + x.hates(2, 2, 0), 34);
        due("still named after 1", x.at(23, 0, 1), 1);
    }

    // ---- Terms: "the GRUDGE is more by as much as ... hates its BUILDER then, of a smack by half of that, cut"

    static void terms_grudge_ofASmackIsHalfCut() {
        int[] halves = {0, 0, 1, 1, 2, 2, 3, 3, 4, 4};
        for (int much = 1; much <= 9; much++) {
            due("a smack, by " + much, told("10" + much, "s0a9").at(0, 0, 2), halves[much]);
            due("a lugger, by " + much, told("10" + much, "l0a9").at(0, 0, 2), much);
            due("a tub, by " + much, told("10" + much, "t0a9").at(0, 0, 2), much);
        }
        Edges.at("half of 1 is 0, ever", told("101", "s0a1"), 23, 0, SEA, 1, 0, 1);
    }

    // ---- Terms: "If it is more than three times the STRENGTH then, or the STRENGTH is 0, the BOAT is SUNK"

    static void terms_sunk_threeTimesIsNotMore() {
        for (int strength = 1; strength <= 9; strength++) {
            BoatNames x = told("103", "l0a" + strength);
            due("three times " + strength, x.at(strength - 1, 0, 2), 3 * strength);
            due("at sea", x.at(strength - 1, 0, 0), SEA);
            due("more", x.at(strength, 0, 0), SUNK);
        }
    }

    static void terms_sunk_oneMoreThanThreeTimesIs() {
        Edges.at("4 by 1", told("104", "l0a1"), 0, 0, SUNK, 1, 4, 1);
        Edges.at("7 by 2", told("107", "l0a2"), 0, 0, SUNK, 1, 7, 2);
        Edges.at("4 by 1, a smack", told("108", "s0a1"), 0, 0, SUNK, 1, 4, 1);
        Edges.at("3 by 1, a smack", told("107", "s0a1"), 0, 0, SEA, 1, 3, 1);
    }

    static void terms_sunk_theGreatestGrudgeThatIsBorne() {
        BoatNames x = told("109", "l0a9");
        Edges.at("27 by 9", x, 2, 0, SEA, 1, 27, 9);
        Edges.at("36 by 9", x, 3, 0, SUNK, 1, 36, 9);
        Edges.at("it stays so", x, 23, 0, SUNK, 1, 36, 9);
    }

    static void terms_sunk_theStrengthIsThatOfThen() {
        BoatNames x = told("103", "l0a4", STORM, 2, 0);
        Edges.at("9 by 3", x, 2, 0, SEA, 1, 9, 3);
        Edges.at("12 by 3", x, 3, 0, SUNK, 1, 12, 3);
        Edges.at("12 by 4", told("103", "l0a4"), 3, 0, SEA, 1, 12, 4);
    }

    static void terms_sunk_strength0WithoutAGrudge() {
        Edges.at("no grudge", told("101", "s0a1", STORM, 1, 0), 1, 0, SUNK, 1, 0, 0);
        Edges.at("made up", told("101", "l0a1", MADE_UP, 1, 0, SHARE, 1, 0, STORM, 1, 0), 1, 0, SUNK, 1, 0, 0);
    }

    /** Terms: "its BUILDER hates who it is NAMED after by 1 more, 9 at most". */
    static void terms_sunk_theBuilderHatesBy1MoreAnd9AtMost() {
        due("0 and 1", told("109", "l0a1").hates(0, 0, 1), 1);
        due("7 and 1", told("109;017", "l0a1").hates(0, 0, 1), 8);
        due("8 and 1", told("109;018", "l0a1").hates(0, 0, 1), 9);
        due("9 at most", told("109;019", "l0a1").hates(0, 0, 1), 9);
        due("the named one as ever", told("109;019", "l0a1").hates(0, 1, 0), 9);
        due("twice", told("109;018", "l0a1;l0a1").hates(0, 0, 1), 9);
        due("eight times", told("109", Edges.times("l0a1", 8)).hates(0, 0, 1), 8);
        due("once for each", told("109", "l0a1").hates(23, 0, 1), 1);
    }

    // ---- Promise 11: "How much who hates whom behind a WEEK. BAD (one and the same, too)."

    static void promise11_hates_weeks0To23AndNoOthers() {
        BoatNames x = told("104;012", "l0x1");
        due("week 0", x.hates(0, 0, 1), 2);
        due("week 22", x.hates(22, 0, 1), 2);
        due("week 23", x.hates(23, 0, 1), 3);
        Edges.badAround("week", 23, (y, week) -> y.hates(week, 0, 1));
    }

    static void promise11_hates_people0To7AndNoOthers() {
        BoatNames x = told("709;078", "");
        due("7 and 0", x.hates(23, 7, 0), 9);
        due("0 and 7", x.hates(23, 0, 7), 8);
        Edges.badAround("who", 7, (y, p) -> y.hates(0, p, 1));
        Edges.badAround("whom", 7, (y, p) -> y.hates(23, 1, p));
    }

    static void promise11_hates_oneAndTheSameIsBad() {
        for (int p = 0; p < 8; p++) {
            int same = p;
            Edges.bad("person " + p, x -> x.hates(3 * same, same, same));
        }
    }

    static void promise11_hates_withNoBoatsAsTold() {
        BoatNames x = told("345;431", "", STORM, 0, 0, SHARE, 0, 0, MADE_UP, 0, 0);
        for (int week = 0; week < 24; week++) {
            due("week " + week, x.hates(week, 3, 4) * 10 + x.hates(week, 4, 3), 51);
        }
    }

    // ---- Promise 12: "What it is (what = 0), whom it is NAMED after (1; NONE), GRUDGE (2), STRENGTH (3). BAD."

    static void promise12_at_weeks0To23AndNoOthers() {
        BoatNames x = told("101", "l0a9");
        due("week 0", x.at(0, 0, 2), 1);
        due("week 23", x.at(23, 0, 2), 24);
        for (Edges.Scene scene : new Edges.Scene[] {Edges.SOME, Edges.ALL}) {
            Edges.refusedAround(scene, "week", 23, (y, week) -> y.at(week, 0, 0), BAD);
        }
    }

    static void promise12_at_theLastBoatThatThereIsAndTheNext() {
        due("the last of some", Edges.SOME.make().at(0, 2, 3), 3);
        due("the last of all", Edges.ALL.make().at(0, 7, 3), 2);
        Edges.badBoats("boat", (x, b) -> x.at(0, b, 0), BAD);
    }

    static void promise12_at_what0To3AndNoOthers() {
        for (Edges.Scene scene : new Edges.Scene[] {Edges.SOME, Edges.ALL}) {
            Edges.refusedAround(scene, "what", 3, (x, what) -> x.at(0, 0, what), BAD);
        }
    }

    static void promise12_at_aBoatThatIsNotLaunchedOrRotsIsNamedAfterNone() {
        BoatNames x = told("012", "s0c4");
        Edges.at("not launched yet", x, 1, 0, UNLAUNCHED, NONE, 0, 4);
        Edges.at("left to rot", x, 2, 0, ROTS, NONE, 0, 4);
    }

    // ---- Promise 13: "How many are at SEA. BAD."

    static void promise13_afloat_weeks0To23AndNoOthers() {
        BoatNames x = told("101", "l0a9;l0x9");
        due("week 0", x.afloat(0), 1);
        due("week 22", x.afloat(22), 1);
        due("week 23", x.afloat(23), 2);
        Edges.badAround("week", 23, (y, week) -> y.afloat(week));
    }

    static void promise13_afloat_noneAndAllEight() {
        BoatNames x = told("101", Edges.times("l0a9", 8));
        due("all at first", x.afloat(0), 8);
        due("all at last", x.afloat(23), 8);
        due("all sunk at once", told("109", Edges.times("l0a1", 8)).afloat(0), 0);
        due("all rot", told("", Edges.times("l0a1", 8)).afloat(23), 0);
        due("none launched yet", told("101", Edges.times("l0x9", 8)).afloat(22), 0);
        due("no boats", told("101", "").afloat(0), 0);
    }

    // ---- Promise 14: "How many BOATS are NAMED so (what = 0), how many of these are SUNK (1). BAD."

    static void promise14_named_people0To7AndNoOthers() {
        due("0", told("011", "l1a9").named(0, 0), 1);
        due("7", told("701", "l0a9").named(7, 0), 1);
        Edges.badAround("person", 7, (x, p) -> x.named(p, 0));
    }

    static void promise14_named_what0And1AndNoOthers() {
        Edges.badAround("what", 1, (x, what) -> x.named(0, what));
    }

    static void promise14_named_noneAndAllEight() {
        BoatNames x = told("101", Edges.times("l0a9", 8));
        due("all named", x.named(1, 0), 8);
        due("none sunk", x.named(1, 1), 0);
        due("nobody else's", x.named(0, 0) + x.named(2, 0), 0);
        x = told("109", Edges.times("l0a1", 8));
        due("all named", x.named(1, 0), 8);
        due("all sunk", x.named(1, 1), 8);
        x = told("", Edges.times("l0a1", 8));
        for (int p = 0; p < 8; p++) {
            due("one that rots is not named", x.named(p, 0) + x.named(p, 1), 0);
        }
    }

    /** Terms: "how many BOATS are NAMED so by WEEK 23". */
    static void promise14_named_week23Counts() {
        BoatNames x = told("104", "l0x1;l0x9");
        due("launched in week 23", x.named(1, 0), 2);
        due("sunk in week 23", x.named(1, 1), 1);
        due("sunk in week 24 it would be", told("102", "l0x1").named(1, 1), 0);
    }

    // ---- Promise 15: "FIRST: the WEEK (what = 0), the BOAT (1); NONE. BAD."

    private static void firstIs(String what, BoatNames x, int week, int boat) {
        due(what + ", the week", x.first(0), week);
        due(what + ", the boat", x.first(1), boat);
    }

    static void promise15_first_what0And1AndNoOthers() {
        Edges.badAround("what", 1, (x, what) -> x.first(what));
    }

    static void promise15_first_noneWhereNoneIsSunk() {
        firstIs("no boats", told("109", ""), NONE, NONE);
        firstIs("it rots", told("", "l0a1"), NONE, NONE);
        firstIs("it is at sea", told("101", "l0a9"), NONE, NONE);
        firstIs("it would be in week 24", told("102", "l0x1"), NONE, NONE);
    }

    static void promise15_first_noneAgainWhenWhatSinksIsUndone() {
        BoatNames x = told("101", "l0x9;s0a1", STORM, 5, 0);
        firstIs("a storm", x, 5, 1);
        x.back();
        firstIs("no storm", x, NONE, NONE);
        x.event(STORM, 7, 0);
        firstIs("another storm", x, 7, 1);
        x.wipe(0);
        firstIs("no hates", x, NONE, NONE);
    }

    static void promise15_first_week0AndWeek23() {
        firstIs("week 0", told("109", "l0a1"), 0, 0);
        firstIs("week 23", told("109", "l0x1"), 23, 0);
    }

    static void promise15_first_theLeastBoatInTheFirstWeek() {
        firstIs("1 and 2 in week 0, 0 in week 2", told("104", "l0a3;l0a1;l0a1"), 0, 1);
        firstIs("all eight", told("109", Edges.times("l0a1", 8)), 0, 0);
        firstIs("the last one alone", told("104", Edges.times("l1a1", 7) + ";l0a1"), 0, 7);
        firstIs("0 later than 1", told("109", "l0x1;l0w1"), 22, 1);
    }

    // ---- Promise 16: "LOVED, as bits."

    static void promise16_loved_noneAndAll() {
        due("all", new BoatNames().loved(), 255);
        due("none", told("011;121;231;341;451;561;671;701", "").loved(), 0);
        due("7 alone", told("701;011;121;231;341;451;561", "").loved(), 128);
        due("0 alone", told("011;121;231;341;451;561;671", "").loved(), 1);
        due("with a fault all", told("011;", "").loved(), 255);
    }

    static void promise16_loved_itIsBehindWeek23() {
        due("made up in week 23", told("101", "l0a9", MADE_UP, 23, 0).loved(), 255);
        due("a share in week 23", told("101", "l0a9", SHARE, 23, 0).loved(), 255);
        due("sunk in week 23", told("104", "l0x1").loved(), 252);
        due("sunk in week 24 it would be", told("102", "l0x1").loved(), 254);
    }

    // ---- Promise 17: "BITTER."

    static void promise17_bitter_ofLikeOnesTheLeast() {
        due("nobody hates", new BoatNames().bitter(), 0);
        due("3 and 5", told("505;305", "").bitter(), 3);
        due("6 and 7", told("671;761", "").bitter(), 6);
        due("7 alone", told("701", "").bitter(), 7);
        due("7 by one more", told("065;706", "").bitter(), 7);
    }

    static void promise17_bitter_allOthersTogether() {
        due("3 and 3 are more than 5", told("105;203;213", "").bitter(), 2);
        due("seven by 1 are less than 8", told("101;121;131;141;151;161;171;208", "").bitter(), 2);
        due("seven by 1 are like 7", told("101;121;131;141;151;161;171;207", "").bitter(), 1);
    }

    static void promise17_bitter_itIsBehindWeek23() {
        due("made up in week 23", told("102;341", "s0a9", MADE_UP, 23, 0).bitter(), 3);
        due("sunk in week 23", told("238;158;348", "l3x1").bitter(), 3);
        due("sunk in week 24 it would be", told("233;153;343", "l3x1").bitter(), 1);
    }

    static void promise17_bitter_whateverWasAskedAhead() {
        BoatNames x = told("101;341", "s0a9");
        due("a plan of 24 weeks", x.pay(0, 1), 24);
        due("bitter", x.bitter(), 1);
        due("again", x.bitter(), 1);
    }

    // ---- Promise 18: "How LONG it is at SEA. BAD."

    static void promise18_longs_theLastBoatThatThereIsAndTheNext() {
        due("the last of all", Edges.ALL.make().longs(7) >= 0 ? 1 : 0, 1);
        Edges.badBoats("boat", (x, b) -> x.longs(b), BAD);
    }

    static void promise18_longs_none1And24() {
        due("it rots", told("", "l0a9").longs(0), 0);
        due("sunk in its own week", told("104", "l0a1").longs(0), 0);
        due("sunk in the next one", told("103", "l0a1").longs(0), 1);
        due("week 23", told("101", "l0x9").longs(0), 1);
        due("week 22", told("101", "l0w9").longs(0), 2);
        due("all weeks", told("101", "l0a9").longs(0), 24);
        due("sunk in week 23", told("101", "s0a1", STORM, 23, 0).longs(0), 23);
        due("sunk in week 24 it would be", told("102", "l0x1").longs(0), 1);
    }
}
