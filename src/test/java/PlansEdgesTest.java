/** Promises 19 to 22 at their edges: what had better be, and what had better not be. */
public final class PlansEdgesTest {
    private static final int NONE = Edges.NONE, BAD = Edges.BAD;
    private static final int STORM = 0, SHARE = 1, MADE_UP = 2;

    public static void main(String[] args) {
        Edges.run(PlansEdgesTest.class);
    }

    private static void due(String what, long got, long want) {
        Edges.due(what, got, want);
    }

    private static BoatNames told(String hates, String boats, int... events) {
        return Edges.with(Edges.told(hates, boats), events);
    }

    private static void badWhats(Edges.NumberCall call) {
        Edges.refusedAround(Edges.SOME, "what", 1, call, BAD);
        Edges.refusedAround(Edges.ALL, "what", 1, call, BAD);
    }

    /** What a plan answers is a trial: it leaves all as it was told. */
    private static void leavesAll(Edges.Call plan) {
        for (Edges.Scene scene : new Edges.Scene[] {Edges.SOME, Edges.ALL}) {
            BoatNames x = scene.make();
            plan.on(x);
            Edges.same("what is held", Edges.look(x), Edges.look(scene.make()));
        }
    }

    // ---- Promise 19: "WRONG: which (what = 0), how LONG (1). BAD."

    private static void wrongIs(String what, BoatNames x, int boat, int who, int weeks) {
        due(what + ", which", x.wrong(boat, 0), who);
        due(what + ", how long", x.wrong(boat, 1), weeks);
    }

    static void promise19_wrong_theLastBoatThatThereIsAndTheNext() {
        Edges.badBoats("boat", (x, b) -> x.wrong(b, 0), BAD);
        wrongIs("the last of eight", told("", Edges.times("l0x9", 8)), 7, 1, 1);
    }

    static void promise19_wrong_what0And1AndNoOthers() {
        badWhats((x, what) -> x.wrong(0, what));
    }

    /** Terms: "who (but its BUILDER)". */
    static void promise19_wrong_neverItsBuilder() {
        for (int builder = 0; builder < 8; builder++) {
            wrongIs("builder " + builder, told("", "l" + builder + "a9"), 0, builder == 0 ? 1 : 0, 5);
        }
    }

    /** Terms: "by 5 at first, in place of what is told". */
    static void promise19_wrong_5IsInPlaceOfWhatIsTold() {
        wrongIs("9 becomes 5", told("109", "l0a9"), 0, 1, 5);
        wrongIs("9 becomes 5, the last one", told("709", "l0a9"), 0, 7, 5);
        wrongIs("9 becomes 5, of builder 7", told("679", "l7a9"), 0, 6, 5);
        // By 1 it would be at sea for all weeks: 1 does so where another one's 5 is not more.
        wrongIs("1 stays where 9 is the most", told("101;209", "l0a9"), 0, 2, 5);
    }

    static void promise19_wrong_ofLikeOnesTheLeast() {
        wrongIs("any", told("", "l1a9"), 0, 0, 5);
        wrongIs("9 is the most whoever hates by 5", told("109;209", "l0a9"), 0, 1, 3);
        wrongIs("sunk at once, all alike", told("", "l0a1"), 0, 1, 0);
    }

    static void promise19_wrong_0And24Weeks() {
        wrongIs("sunk at once", told("", "l3a1"), 0, 0, 0);
        wrongIs("all weeks", told("", "l3a9", MADE_UP, 1, 0), 0, 0, 24);
        wrongIs("week 23", told("", "l3x9"), 0, 0, 1);
    }

    static void promise19_wrong_leavesAllAsItWas() {
        leavesAll(x -> x.wrong(0, 0) + x.wrong(2, 1));
    }

    // ---- Promise 20: "PAY: which (what = 0), how LONG (1). BAD."

    private static void payIs(String what, BoatNames x, int boat, int week, int weeks) {
        due(what + ", which", x.pay(boat, 0), week);
        due(what + ", how long", x.pay(boat, 1), weeks);
    }

    static void promise20_pay_theLastBoatThatThereIsAndTheNext() {
        Edges.badBoats("boat", (x, b) -> x.pay(b, 0), BAD);
        payIs("the last of eight", told("104", Edges.times("l3a3", 7) + ";l0a3"), 7, 2, 5);
    }

    static void promise20_pay_what0And1AndNoOthers() {
        badWhats((x, what) -> x.pay(0, what));
    }

    static void promise20_pay_ofLikeOnesTheLeast() {
        payIs("it rots", told("", "l0a1"), 0, 0, 0);
        payIs("at sea for all weeks", told("101", "s0a9"), 0, 0, 24);
        payIs("sunk at once", told("109", "l0a1"), 0, 0, 0);
    }

    static void promise20_pay_weeks0To23() {
        // 4, 8, 12 by 3: without a share it is sunk two weeks behind its launching.
        payIs("week 2", told("104", "l0a3"), 0, 2, 5);
        payIs("week 23, the last one", told("105", "l0w3"), 0, 23, 2);
        payIs("too late for week 24", told("105", "l0x3"), 0, 0, 1);
    }

    /** Terms: "behind all EVENTS of that (whatever room)". */
    static void promise20_pay_whateverRoomThereIs() {
        BoatNames x = told("104", "l0a3");
        for (int e = 0; e < 8; e++) {
            payIs("with " + e + " events", x, 0, 2, 5);
            x.event(SHARE, 2, 7);
        }
        due("eight", x.count(4), 8);
        payIs("with 8 events", x, 0, 2, 5);
        due("eight still", x.count(4), 8);
        due("still as told", x.longs(0), 2);
    }

    static void promise20_pay_aShareMoreIsBesideThoseOfTheWeek() {
        // Paid in week 2 already, 3, 6, 9, 12: one more in week 5 is followed by 2, 4, 6, 8, 10.
        payIs("behind one told", told("104", "l0a3", SHARE, 2, 0), 0, 5, 9);
        // Behind a storm 6, 5 and 4 are more than three times 1, and 3 is not.
        payIs("the third of week 23", told("106", "l0w2", STORM, 23, 0, SHARE, 23, 0, SHARE, 23, 0), 0, 23, 2);
    }

    static void promise20_pay_leavesAllAsItWas() {
        leavesAll(x -> x.pay(0, 0) + x.pay(2, 1));
    }

    // ---- Promise 21: "WAIT: which (what = 0), how many (1). BAD."

    private static void waitIs(String what, BoatNames x, int boat, int week, int sunk) {
        due(what + ", which", x.waits(boat, 0), week);
        due(what + ", how many", x.waits(boat, 1), sunk);
    }

    static void promise21_waits_theLastBoatThatThereIsAndTheNext() {
        Edges.badBoats("boat", (x, b) -> x.waits(b, 0), BAD);
        waitIs("the last of eight", told("104", Edges.times("l3a3", 7) + ";l0a3"), 7, 22, 0);
    }

    static void promise21_waits_what0And1AndNoOthers() {
        badWhats((x, what) -> x.waits(0, what));
    }

    static void promise21_waits_weeks0To23() {
        waitIs("any, so week 0", told("101", "l0x9"), 0, 0, 0);
        waitIs("week 22 and 23", told("104", "l0a3"), 0, 22, 0);
        waitIs("week 23 alone", told("104", "l0a2"), 0, 23, 0);
    }

    static void promise21_waits_ofLikeOnesTheLeast() {
        waitIs("it rots whenever", told("", "l0m1"), 0, 0, 0);
        waitIs("it is sunk whenever", told("104", "l0x1"), 0, 0, 1);
    }

    static void promise21_waits_noneAndAllEightSunk() {
        BoatNames x = told("104", Edges.times("l0a1", 8));
        waitIs("all eight whenever", x, 0, 0, 8);
        waitIs("all eight whenever", x, 7, 0, 8);
        waitIs("the other one's counts, too", told("104", "l0a1;l0a3"), 1, 22, 1);
        waitIs("none", told("101", Edges.times("s0a1", 8)), 3, 0, 0);
    }

    static void promise21_waits_week23Counts() {
        waitIs("sunk in week 23", told("104", "l0a1;l0x1"), 0, 0, 2);
        waitIs("sunk in week 24 it would be", told("102", "l0a1"), 0, 23, 0);
    }

    static void promise21_waits_leavesAllAsItWas() {
        leavesAll(x -> x.waits(0, 0) + x.waits(2, 1));
    }

    // ---- Promise 22: "SPARE: how many (i = NONE), the i-th (0, 1; NONE); NONE. BAD."

    private static void spareIs(String what, BoatNames x, int many, int first, int second) {
        due(what + ", how many", x.spare(NONE), many);
        due(what + ", the first", x.spare(0), first);
        due(what + ", the second", x.spare(1), second);
    }

    static void promise22_spare_noneTo1AndNoOthers() {
        for (int i : new int[] {-2, 2, Edges.LEAST, Edges.MOST, 8, -8}) {
            Edges.bad("i = " + i, x -> x.spare(i));
            due("BAD is ahead of NONE", told("109", "l0a1").spare(i), BAD);
        }
    }

    static void promise22_spare_0To2AreEnough() {
        BoatNames x = told("101", "s0a1");
        spareIs("no event", x, 0, NONE, NONE);
        x.event(STORM, 1, 0);
        spareIs("a storm", x, 1, 0, NONE);
        x.event(STORM, 1, 0);
        spareIs("two storms", x, 2, 0, 1);
        x.event(STORM, 1, 0);
        spareIs("three storms", x, NONE, NONE, NONE);
    }

    static void promise22_spare_noneIsEnoughWhereItIsSunkWithoutEvents() {
        spareIs("no event", told("109", "l0a1"), NONE, NONE, NONE);
        spareIs("a storm", told("109", "l0a1", STORM, 1, 0), NONE, NONE, NONE);
        spareIs("sunk in week 23", told("109", "l0x1"), NONE, NONE, NONE);
    }

    static void promise22_spare_noBoatsOrNoneSunkNeed0() {
        spareIs("no boats", told("109", "", STORM, 1, 0), 0, NONE, NONE);
        spareIs("it rots", told("", "l0a1", STORM, 1, 0), 0, NONE, NONE);
        spareIs("sunk in week 24 it would be", told("102", "l0x1"), 0, NONE, NONE);
        spareIs("storms ahead of the launching", told("101", "s0b1", STORM, 0, 0, STORM, 1, 0), 0, NONE, NONE);
    }

    /** Terms: "of like ones the least row (each more than the one ahead)". */
    static void promise22_spare_ofLikeOnesTheLeastRow() {
        spareIs("one of two", told("101", "s0a2", STORM, 1, 0, STORM, 2, 0), 1, 0, NONE);
        spareIs("two of three", told("101", "s0a2", STORM, 1, 0, STORM, 2, 0, STORM, 3, 0), 2, 0, 1);
        spareIs("0 need not be", told("101", "s0a1", STORM, 0, 0, STORM, 1, 0), 1, 1, NONE);
        spareIs("0 and 2", told("101", "s0a1", STORM, 1, 0, SHARE, 1, 0, STORM, 2, 0), 2, 0, 2);
        spareIs("two of five", told("101", "t0v8;l0v9", STORM, 22, 0, STORM, 22, 0, STORM, 22, 0, STORM, 22, 0,
            STORM, 22, 0), 2, 0, 1);
    }

    static void promise22_spare_theLastTwoOfEight() {
        BoatNames x = told("101", "s0a1");
        for (int e = 0; e < 6; e++) {
            x.event(SHARE, 1, 7);
        }
        x.event(STORM, 23, 0);
        spareIs("the seventh", x, 1, 6, NONE);
        x.event(STORM, 23, 0);
        spareIs("the last two", x, 2, 6, 7);
        BoatNames y = told("101", "s0a1");
        for (int e = 0; e < 7; e++) {
            y.event(SHARE, 1, 7);
        }
        y.event(STORM, 23, 0);
        spareIs("the eighth", y, 1, 7, NONE);
    }

    static void promise22_spare_aShareOrMakingUpMayBeWhatSinks() {
        // Without the one of week 1 boat 1 is named after 1, too, and spared by the making up of week 3.
        spareIs("made up", told("103;202", "l0a9;l0c1", MADE_UP, 1, 0, MADE_UP, 3, 0), 1, 0, NONE);
        spareIs("made up, told behind", told("103;202", "l0a9;l0c1", MADE_UP, 3, 0, MADE_UP, 1, 0), 1, 1, NONE);
        spareIs("a share", told("102;202", "l0a9;l0c1", SHARE, 1, 0, MADE_UP, 3, 0), 1, 0, NONE);
    }

    static void promise22_spare_leavesAllAsItWas() {
        leavesAll(x -> x.spare(NONE) + x.spare(0) + x.spare(1));
    }

    // ---- "the same calls always give the same answers" (LANGUAGE.md, 13): whatever was asked ahead

    static void terms_plans_answerTheSameWhateverWasAskedAhead() {
        // Boat 0 is at sea for all weeks whatever is done, boat 1 is sunk at once, boat 2 had better be paid in week 2.
        BoatNames x = told("101;239;454", "s0a9;l3a1;l5a3");
        for (int before = 0; before < 8; before++) {
            ask(x, before);
            payIs("pay behind " + before, x, 2, 2, 5);
            ask(x, before);
            waitIs("wait behind " + before, x, 2, 22, 1);
            ask(x, before);
            wrongIs("wrong behind " + before, x, 1, 0, 0);
            ask(x, before);
            due("bitter behind " + before, x.bitter(), 2);
            ask(x, before);
            due("ask behind " + before, x.ask(2, 0), 0);
        }
    }

    private static void ask(BoatNames x, int which) {
        switch (which) {
            case 0: x.pay(0, 1); break;
            case 1: x.pay(1, 1); break;
            case 2: x.waits(0, 1); break;
            case 3: x.waits(1, 1); break;
            case 4: x.wrong(0, 1); break;
            case 5: x.wrong(1, 0); break;
            case 6: x.bitter(); break;
            default: x.ask(4, 5); break;
        }
    }
}
