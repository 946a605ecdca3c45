/** Promises 1 to 10 at their edges: texts and their faults, people, boats as told, events. */
public final class TellingEdgesTest {
    private static final int NONE = Edges.NONE, BAD = Edges.BAD, NOT = Edges.NOT, FULL = Edges.FULL;
    private static final int NULL = Edges.NULL, LEAST = Edges.LEAST, MOST = Edges.MOST;
    private static final String TWELVE = Edges.times("345", 12);
    private static final String EIGHT = Edges.times("l4m5", 8);

    public static void main(String[] args) {
        Edges.run(TellingEdgesTest.class);
    }

    private static void due(String what, long got, long want) {
        Edges.due(what, got, want);
    }

    // ---- Promise 1: "No HATES, no BOATS, no EVENTS; all SHEETS are LOST."

    static void promise01_new_everyCountIs0() {
        for (int what = 0; what <= 8; what++) {
            due("count(" + what + ")", new BoatNames().count(what), 0);
        }
    }

    static void promise01_new_noHates() {
        BoatNames x = new BoatNames();
        for (int two = 0; two < 64; two++) {
            if (two / 8 != two % 8) {
                due("told", x.told(two / 8, two % 8), 0);
                due("hates behind week 23", x.hates(23, two / 8, two % 8), 0);
            }
        }
        due("all are loved", x.loved(), 255);
        due("of like ones the least", x.bitter(), 0);
        due("wipe", x.wipe(0), 0);
        due("undo", x.undo(0), NOT);
        due("fault", x.fault(0), NONE);
    }

    static void promise01_new_noBoats() {
        BoatNames x = new BoatNames();
        due("boat", x.boat(0, 0), BAD);
        due("at", x.at(0, 0, 0), BAD);
        due("longs", x.longs(0), BAD);
        for (int week = 0; week < 24; week++) {
            due("afloat", x.afloat(week), 0);
        }
        for (int p = 0; p < 8; p++) {
            due("named", x.named(p, 0) + x.named(p, 1), 0);
        }
        due("first week", x.first(0), NONE);
        due("first boat", x.first(1), NONE);
        due("wipe", x.wipe(1), 0);
        due("undo", x.undo(1), NOT);
        due("fault", x.fault(1), NONE);
    }

    static void promise01_new_noEventsAndNothingSeen() {
        BoatNames x = new BoatNames();
        due("back", x.back(), NOT);
        due("never", x.never(), 0);
        due("spare, how many", x.spare(NONE), 0);
        due("spare, the first", x.spare(0), NONE);
        due("spare, the second", x.spare(1), NONE);
        due("forget", x.forget(), 0);
    }

    static void promise01_new_allSheetsAreLost() {
        for (int s = 0; s < 4; s++) {
            due("lose", new BoatNames().lose(s), NULL);
            due("read", new BoatNames().read(s), NULL);
            due("put", new BoatNames().put(s, 0, 0, 0), NULL);
        }
    }

    static void promise01_new_holdsNothingOfAnotherObject() {
        BoatNames other = Edges.ALL.make();
        BoatNames x = new BoatNames();
        Edges.same("a new one beside a full one", Edges.look(x), Edges.look(new BoatNames()));
        due("the full one stands", other.count(1), 8);
    }

    // ---- Promise 2: "A byte (0 to 255) comes behind a text: how many. BAD; FULL."

    /** Terms: "HATES are a text of up to 47 bytes (text 0)". */
    static void promise02_type_text0Takes47BytesAndThe48thIsFull() {
        BoatNames x = new BoatNames();
        for (int n = 1; n <= 47; n++) {
            due("byte " + n, x.type(0, '0'), n);
        }
        due("byte 48", x.type(0, '0'), FULL);
        due("bytes", x.count(2), 47);
        due("text 1 has room", x.type(1, 'l'), 1);
    }

    /** Terms: "BOATS are a text of up to 39 bytes (text 1)". */
    static void promise02_type_text1Takes39BytesAndThe40thIsFull() {
        BoatNames x = new BoatNames();
        for (int n = 1; n <= 39; n++) {
            due("byte " + n, x.type(1, 'l'), n);
        }
        due("byte 40", x.type(1, 'l'), FULL);
        due("bytes", x.count(3), 39);
        due("text 0 has room", x.type(0, '0'), 1);
    }

    static void promise02_type_texts0And1AndNoOthers() {
        due("text 0", new BoatNames().type(0, 1), 1);
        due("text 1", new BoatNames().type(1, 1), 1);
        Edges.badAround("text", 1, (x, text) -> x.type(text, '0'));
    }

    static void promise02_type_bytes0To255AndNoOthers() {
        for (int text = 0; text < 2; text++) {
            int at = text;
            due("byte 0", new BoatNames().type(text, 0), 1);
            due("byte 255", new BoatNames().type(text, 255), 1);
            Edges.badAround("byte", 255, (x, b) -> x.type(at, b));
        }
    }

    static void promise02_type_everyByteIsHeldAsItIs() {
        for (int b = 0; b < 256; b++) {
            BoatNames x = new BoatNames();
            x.type(0, b);
            due("hates, byte " + b, x.fault(0), b >= '0' && b <= '7' ? 1 : 0);
            x.type(1, b);
            due("boats, byte " + b, x.fault(1), b == 'l' || b == 's' || b == 't' ? 1 : 0);
        }
    }

    static void promise02_type_badIsAheadOfFull() {
        Edges.refused(Edges.ALL, "byte 256 to a full text 0", x -> x.type(0, 256), BAD);
        Edges.refused(Edges.ALL, "byte -1 to a full text 1", x -> x.type(1, -1), BAD);
    }

    static void promise02_type_fullChangesNothing() {
        Edges.refused(Edges.ALL, "text 0", x -> x.type(0, ';'), FULL);
        Edges.refused(Edges.ALL, "text 1", x -> x.type(1, 'l'), FULL);
    }

    static void promise02_type_aFullTextHasRoomAgainBehindAnUndo() {
        BoatNames x = Edges.ALL.make();
        due("undo", x.undo(0), 46);
        due("the room", x.type(0, '9'), 47);
        due("no more", x.type(0, '9'), FULL);
        due("it is what was typed last", x.told(3, 7), 9);
        due("undo", x.undo(1), 38);
        due("the room", x.type(1, '7'), 39);
        due("no more", x.type(1, '7'), FULL);
        due("it is what was typed last", x.boat(7, 3), 7);
    }

    // ---- Promise 3: "A text is empty: how many bytes it had. BAD."

    static void promise03_wipe_anEmptyTextHadNone() {
        due("text 0", new BoatNames().wipe(0), 0);
        due("text 1", new BoatNames().wipe(1), 0);
    }

    static void promise03_wipe_aFullTextHadAll() {
        BoatNames x = Edges.ALL.make();
        due("text 0", x.wipe(0), 47);
        due("none is left", x.count(2) + x.count(0) + x.count(6), 0);
        due("text 1 stands", x.count(1), 8);
        due("text 1", x.wipe(1), 39);
        due("none is left", x.count(3) + x.count(1), 0);
        due("events stand", x.count(4), 8);
        due("what was seen stands", x.count(7), 8);
        due("again", x.wipe(0) + x.wipe(1), 0);
    }

    static void promise03_wipe_aWipedTextHasItsWholeRoom() {
        BoatNames x = Edges.ALL.make();
        x.wipe(0);
        x.wipe(1);
        Edges.typeAll(x, 0, TWELVE);
        Edges.typeAll(x, 1, EIGHT);
        due("hates", x.count(0), 12);
        due("boats", x.count(1), 8);
        due("full", x.type(0, '0'), FULL);
        due("full", x.type(1, '0'), FULL);
    }

    static void promise03_wipe_aFaultIsWipedToo() {
        BoatNames x = Edges.FAULTY.make();
        due("text 0", x.wipe(0), 6);
        due("it is well", x.fault(0), NONE);
        due("text 1", x.wipe(1), 8);
        due("it is well", x.fault(1), NONE);
    }

    static void promise03_wipe_texts0And1AndNoOthers() {
        Edges.badAround("text", 1, (x, text) -> x.wipe(text));
    }

    // ---- Promise 4: "The last byte of a text is undone: how many are left. BAD; NOT: it is empty."

    static void promise04_undo_theOnlyByteLeaves0() {
        BoatNames x = Edges.told("1", "l");
        due("text 0", x.undo(0), 0);
        due("text 1", x.undo(1), 0);
    }

    static void promise04_undo_ofAFullTextLeavesOneLess() {
        BoatNames x = Edges.ALL.make();
        due("text 0", x.undo(0), 46);
        due("its end is the fault", x.fault(0), 46);
        due("text 1", x.undo(1), 38);
        due("its end is the fault", x.fault(1), 38);
    }

    static void promise04_undo_anEmptyTextIsNot() {
        Edges.refused(Edges.EMPTY, "text 0", x -> x.undo(0), NOT);
        Edges.refused(Edges.EMPTY, "text 1", x -> x.undo(1), NOT);
    }

    static void promise04_undo_aTextThatHasBecomeEmptyIsNot() {
        for (int text = 0; text < 2; text++) {
            int at = text;
            Edges.Scene wiped = () -> {
                BoatNames x = Edges.SOME.make();
                x.wipe(at);
                return x;
            };
            Edges.refused(wiped, "text " + text, x -> x.undo(at), NOT);
        }
        BoatNames x = Edges.told("10", "");
        due("two", x.undo(0), 1);
        due("one", x.undo(0), 0);
        due("none", x.undo(0), NOT);
        due("still none", x.undo(0), NOT);
        due("then a byte is the first", x.type(0, '1'), 1);
    }

    static void promise04_undo_texts0And1AndNoOthers() {
        Edges.badAround("text", 1, (x, text) -> x.undo(text));
    }

    // ---- Promise 5: "The FAULT of a text; NONE. BAD."

    private static void faultIs(int text, String bytes, int want) {
        BoatNames x = new BoatNames();
        Edges.typeAll(x, text, bytes);
        due("fault of " + bytes, x.fault(text), want);
        due("the other text with " + bytes, x.fault(1 - text), NONE);
    }

    private static void byteMayBe(int text, String whole, int place, String may, String mayNot) {
        for (char b : may.toCharArray()) {
            faultIs(text, whole.substring(0, place) + b + whole.substring(place + 1), NONE);
        }
        for (char b : mayNot.toCharArray()) {
            faultIs(text, whole.substring(0, place) + b + whole.substring(place + 1), place);
        }
    }

    static void promise05_fault_texts0And1AndNoOthers() {
        Edges.badAround("text", 1, (x, text) -> x.fault(text));
    }

    /** Terms: "an empty one is well". */
    static void promise05_fault_anEmptyTextIsWell() {
        faultIs(0, "", NONE);
        faultIs(1, "", NONE);
    }

    /** Terms: "of one that is not ended, its end". */
    static void promise05_fault_aTextThatIsNotEndedHasItAtItsEnd() {
        for (int size = 1; size <= 47; size++) {
            faultIs(0, TWELVE.substring(0, size), size % 4 == 3 ? NONE : size);
        }
        for (int size = 1; size <= 39; size++) {
            faultIs(1, EIGHT.substring(0, size), size % 5 == 4 ? NONE : size);
        }
    }

    /** Terms: "a figure 0 to 7, who". */
    static void promise05_fault_whoIs0To7InEachHate() {
        for (int place = 0; place < 47; place += 4) {
            byteMayBe(0, TWELVE, place, "0123567", "/89:;al\u0000\u00ff\u00b0");
        }
    }

    /** Terms: "a figure 0 to 7, whom". */
    static void promise05_fault_whomIs0To7InEachHate() {
        for (int place = 1; place < 47; place += 4) {
            byteMayBe(0, TWELVE, place, "0124567", "/89:;al\u0000\u00ff\u00b0");
        }
    }

    /** Terms: "a second figure that is the same as the first one (nobody hates oneself)". */
    static void promise05_fault_whomIsNotWhoInEachHate() {
        for (int place = 1; place < 47; place += 4) {
            byteMayBe(0, TWELVE, place, "", "3");
        }
        for (int p = 0; p < 8; p++) {
            faultIs(0, p + "" + p + "1", 1);
            faultIs(0, p + "" + p, 1);
        }
    }

    /** Terms: "a figure 1 to 9, how much at first". */
    static void promise05_fault_howMuchIs1To9InEachHate() {
        for (int place = 2; place < 47; place += 4) {
            byteMayBe(0, TWELVE, place, "123456789", "0/:;al\u0000\u00ff\u00b1");
        }
    }

    /** Terms: "with ; between them". */
    static void promise05_fault_onlyASemicolonIsBetweenHates() {
        for (int place = 3; place < 47; place += 4) {
            byteMayBe(0, TWELVE, place, ";", ":<0,3 \u0000\u00bb");
        }
    }

    /** Terms: "l (a lugger), s (a smack) or t (a tub)". */
    static void promise05_fault_aSortIsLSOrTInEachBoat() {
        for (int place = 0; place < 39; place += 5) {
            byteMayBe(1, EIGHT, place, "lst", "kmruLST0;\u0000\u00ff\u00ec");
        }
    }

    /** Terms: "a figure 0 to 7, the BUILDER". */
    static void promise05_fault_aBuilderIs0To7InEachBoat() {
        for (int place = 1; place < 39; place += 5) {
            byteMayBe(1, EIGHT, place, "01234567", "/89:;a\u0000\u00ff\u00b0");
        }
    }

    /** Terms: "a letter a to x, the WEEK of its launching (0 to 23)". */
    static void promise05_fault_aWeekIsAToXInEachBoat() {
        for (int place = 2; place < 39; place += 5) {
            byteMayBe(1, EIGHT, place, "abcdefghijklmnopqrstuvwx", "`yzAX0;\u0000\u00ff\u00e1");
        }
    }

    /** Terms: "and a figure 1 to 9, its STRENGTH". */
    static void promise05_fault_aStrengthIs1To9InEachBoat() {
        for (int place = 3; place < 39; place += 5) {
            byteMayBe(1, EIGHT, place, "123456789", "0/:;a\u0000\u00ff\u00b1");
        }
    }

    static void promise05_fault_onlyASemicolonIsBetweenBoats() {
        for (int place = 4; place < 39; place += 5) {
            byteMayBe(1, EIGHT, place, ";", ":<0l,\u0000\u00bb");
        }
    }

    /** Terms: "the place of the first byte with which it cannot go on". */
    static void promise05_fault_isTheFirstOfSeveral() {
        faultIs(0, "8", 0);
        faultIs(0, "88", 0);
        faultIs(0, "018;", 4);
        faultIs(0, "010;88", 2);
        faultIs(0, "011;880", 4);
        faultIs(0, "011;018;220", 9);
        faultIs(1, "k8y0", 0);
        faultIs(1, "l8y0", 1);
        faultIs(1, "l7y0", 2);
        faultIs(1, "l7x0;k", 3);
        faultIs(1, "l7x9;k8", 5);
    }

    static void promise05_fault_isNotMendedByWhatComesBehind() {
        BoatNames x = Edges.told("081", "l8a1");
        for (int more = 0; more < 20; more++) {
            x.type(0, TWELVE.charAt(more));
            x.type(1, EIGHT.charAt(more));
            due("hates", x.fault(0), 1);
            due("boats", x.fault(1), 1);
        }
    }

    static void promise05_fault_isMendedByUndo() {
        BoatNames x = Edges.told("101;208", "l0a1;s0b2");
        due("well", x.fault(0), NONE);
        x.type(0, ';');
        due("not ended", x.fault(0), 8);
        x.undo(0);
        due("well again", x.fault(0), NONE);
        x.type(1, '3');
        due("no semicolon", x.fault(1), 9);
        x.undo(1);
        due("well again", x.fault(1), NONE);
    }

    /** Terms: "12 at most", "of the first byte of a thirteenth HATE": 47 bytes leave no room for it. */
    static void promise05_fault_aThirteenthHateIsNeverMetAsTheTextIsFull() {
        BoatNames x = Edges.told(TWELVE, "");
        due("twelve", x.count(0), 12);
        due("the next byte", x.type(0, ';'), FULL);
        due("well", x.fault(0), NONE);
        due("twelve still", x.count(0), 12);
    }

    /** Terms: "8 at most (0 on)", "of a ninth BOAT": 39 bytes leave no room for it. */
    static void promise05_fault_aNinthBoatIsNeverMetAsTheTextIsFull() {
        BoatNames x = Edges.told("", EIGHT);
        due("eight", x.count(1), 8);
        due("the next byte", x.type(1, ';'), FULL);
        due("well", x.fault(1), NONE);
        due("eight still", x.count(1), 8);
    }

    /** Terms: "With a FAULT a text is as if it was empty." */
    static void promise05_fault_withOneTheHatesAreAsIfEmpty() {
        for (String hates : new String[] {"103;205;", "103;20", "103;225", "803", "103;205x", "x"}) {
            BoatNames x = Edges.with(Edges.told(hates, "l0a5;s1b9"), 0, 3, 0);
            BoatNames empty = Edges.with(Edges.told("", "l0a5;s1b9"), 0, 3, 0);
            due("hates told of " + hates, x.count(0), 0);
            due("bytes of " + hates, x.count(2), hates.length());
            for (int who = 0; who < 8; who++) {
                int whom = (who + 7) % 8;
                due("told", x.told(who, whom), 0);
                due("hates", x.hates(23, who, whom), 0);
            }
            for (int what = 0; what < 4; what++) {
                due("at " + what, x.at(23, 0, what), empty.at(23, 0, what));
            }
            due("it rots", x.at(0, 0, 0), 3);
            due("wrong", x.wrong(0, 0) * 100 + x.wrong(0, 1), empty.wrong(0, 0) * 100 + empty.wrong(0, 1));
            due("all that is hated", x.count(6), 0);
        }
    }

    static void promise05_fault_withOneTheBoatsAreAsIfEmpty() {
        for (String boats : new String[] {"l0a5;", "l0a5;s", "l0a5;s1b0", "x0a5", "l0a5x", "x"}) {
            BoatNames x = Edges.with(Edges.told("103;205", boats), 0, 3, 0);
            due("boats of " + boats, x.count(1), 0);
            due("bytes of " + boats, x.count(3), boats.length());
            due("boat", x.boat(0, 0), BAD);
            due("at", x.at(23, 0, 0), BAD);
            due("afloat", x.afloat(5), 0);
            due("named", x.named(2, 0), 0);
            due("the hates stand", x.told(2, 0), 5);
            due("the events stand", x.count(4), 1);
            due("the drawn lots have no boats", x.decades(1, 8, 0), 0);
        }
    }

    static void promise05_fault_whatIsToldIsBackWhenItIsMended() {
        BoatNames x = Edges.ALL.make();
        long before = x.digest();
        int hate = x.count(6);
        x.undo(0);
        x.undo(1);
        due("no hates", x.count(0), 0);
        due("no boats", x.count(1), 0);
        x.type(0, '8');
        x.type(1, '2');
        due("twelve", x.count(0), 12);
        due("eight", x.count(1), 8);
        due("all that is hated", x.count(6), hate);
        due("all is as it was", x.digest(), before);
    }

    // ---- Promise 6: "How much who hates whom at first; 0. BAD (one and the same, too)."

    /** Terms: "PEOPLE are eight, 0 to 7." */
    static void promise06_told_people0To7AndNoOthers() {
        BoatNames x = Edges.told("709;078", "");
        due("7 and 0", x.told(7, 0), 9);
        due("0 and 7", x.told(0, 7), 8);
        Edges.badAround("who", 7, (y, p) -> y.told(p, 1));
        Edges.badAround("whom", 7, (y, p) -> y.told(1, p));
    }

    static void promise06_told_oneAndTheSameIsBad() {
        for (int p = 0; p < 8; p++) {
            int same = p;
            Edges.bad("person " + p, x -> x.told(same, same));
        }
        Edges.bad("one that there is not", x -> x.told(8, 8));
    }

    /** Terms: "a figure 1 to 9, how much at first (0, where none is told". */
    static void promise06_told_1To9And0WhereNoneIsTold() {
        for (int much = 1; much <= 9; much++) {
            due("told", Edges.told("34" + much, "").told(3, 4), much);
        }
        due("not told", Edges.told("349", "").told(4, 3), 0);
        due("not told", Edges.told("349", "").told(3, 5), 0);
        due("nothing is told", new BoatNames().told(3, 4), 0);
    }

    /** Terms: "of several of like two the last one counts". */
    static void promise06_told_ofLikeTwoTheLastCounts() {
        due("the greater one", Edges.told("341;349", "").told(3, 4), 9);
        due("the lesser one", Edges.told("349;341", "").told(3, 4), 1);
        due("the twelfth", Edges.told(Edges.times("349", 11) + ";342", "").told(3, 4), 2);
        due("the other way round is not like", Edges.told("349;431", "").told(3, 4), 9);
        BoatNames x = Edges.told("349;341", "");
        x.undo(0);
        x.undo(0);
        x.undo(0);
        x.undo(0);
        due("the last one undone", x.told(3, 4), 9);
    }

    // ---- Promise 7: "Its sort, BUILDER, WEEK, STRENGTH at first of a BOAT. BAD."

    static void promise07_boat_theLastBoatThatThereIsAndTheNext() {
        due("the last of some", Edges.SOME.make().boat(2, 0), 2);
        due("the last of all", Edges.ALL.make().boat(7, 3), 2);
        Edges.badBoats("boat", (x, b) -> x.boat(b, 0), BAD);
    }

    static void promise07_boat_what0To3AndNoOthers() {
        Edges.refusedAround(Edges.SOME, "what", 3, (x, what) -> x.boat(0, what), BAD);
        Edges.refusedAround(Edges.ALL, "what", 3, (x, what) -> x.boat(7, what), BAD);
    }

    static void promise07_boat_theLeastAndTheGreatestOfEach() {
        BoatNames x = Edges.told("", "l0a1;s7x9;t3l5");
        int[][] want = {{0, 0, 0, 1}, {1, 7, 23, 9}, {2, 3, 11, 5}};
        for (int b = 0; b < 3; b++) {
            for (int what = 0; what < 4; what++) {
                due("boat " + b + ", what " + what, x.boat(b, what), want[b][what]);
            }
        }
    }

    // ---- Promise 8: "An EVENT more: how many. BAD; FULL."

    /** Terms: "EVENTS, 8 at most (0 on)". */
    static void promise08_event_eightAreTakenAndTheNinthIsFull() {
        BoatNames x = new BoatNames();
        for (int n = 1; n <= 8; n++) {
            due("event " + n, x.event(0, 0, 0), n);
        }
        due("event 9", x.event(0, 0, 0), FULL);
        due("events", x.count(4), 8);
        Edges.refused(Edges.ALL, "a storm", y -> y.event(0, 3, 0), FULL);
        Edges.refused(Edges.ALL, "a share", y -> y.event(1, 3, 0), FULL);
        Edges.refused(Edges.ALL, "made up", y -> y.event(2, 3, 0), FULL);
    }

    static void promise08_event_kinds0To2AndNoOthers() {
        for (int kind = 0; kind <= 2; kind++) {
            due("kind " + kind, new BoatNames().event(kind, 0, 0), 1);
        }
        Edges.badAround("kind", 2, (x, kind) -> x.event(kind, 0, 0));
    }

    /** Terms: "WEEKS are 0 to 23." */
    static void promise08_event_weeks0To23AndNoOthers() {
        due("week 0", new BoatNames().event(0, 0, 0), 1);
        due("week 23", new BoatNames().event(0, 23, 0), 1);
        Edges.badAround("week", 23, (x, week) -> x.event(0, week, 0));
    }

    /** Terms: "a BOAT (0 to 7)", of a STORM, too. */
    static void promise08_event_boats0To7AndNoOthers() {
        for (int kind = 0; kind <= 2; kind++) {
            int each = kind;
            due("boat 0", new BoatNames().event(kind, 0, 0), 1);
            due("boat 7", new BoatNames().event(kind, 0, 7), 1);
            Edges.badAround("boat", 7, (x, boat) -> x.event(each, 0, boat));
        }
    }

    static void promise08_event_badIsAheadOfFull() {
        Edges.refused(Edges.ALL, "kind", x -> x.event(3, 0, 0), BAD);
        Edges.refused(Edges.ALL, "week", x -> x.event(0, 24, 0), BAD);
        Edges.refused(Edges.ALL, "boat", x -> x.event(0, 0, 8), BAD);
    }

    static void promise08_event_ofABoatThatThereIsNotDoesNothingUntilItIs() {
        for (int kind = 1; kind <= 2; kind++) {
            BoatNames x = Edges.with(Edges.told("104", "l0a9"), kind, 1, 1);
            Edges.at("boat 0", x, 1, 0, 1, 1, 8, 9);
            due("the hate", x.hates(23, 1, 0), 4);
            Edges.typeAll(x, 1, ";l0a9");
            due("boat 1 is there now", x.hates(23, 1, 0), kind == 1 ? 3 : 0);
        }
    }

    static void promise08_event_thereIsRoomAgainBehindBack() {
        BoatNames x = Edges.ALL.make();
        due("back", x.back(), 7);
        due("the room", x.event(2, 23, 7), 8);
        due("no more", x.event(2, 23, 7), FULL);
    }

    // ---- Promise 9: "The last EVENT is undone: how many are left. NOT: there is none."

    static void promise09_back_noneIsNot() {
        Edges.refused(Edges.EMPTY, "back", x -> x.back(), NOT);
        Edges.Scene gone = () -> {
            BoatNames x = Edges.SOME.make();
            x.back();
            x.back();
            return x;
        };
        Edges.refused(gone, "back", x -> x.back(), NOT);
    }

    static void promise09_back_fromEightDownToNone() {
        BoatNames x = Edges.ALL.make();
        for (int left = 7; left >= 0; left--) {
            due("back", x.back(), left);
            due("events", x.count(4), left);
        }
        due("none", x.back(), NOT);
        due("then an event is the first", x.event(0, 0, 0), 1);
    }

    static void promise09_back_itIsTheLastToldNotTheLatestWeek() {
        // The smack bears nothing: two storms sink it, one in week 20 and one in week 5.
        BoatNames x = Edges.with(Edges.told("101", "s0a2"), 0, 20, 0, 0, 5, 0);
        due("the second storm", x.first(0), 20);
        x.back();
        due("strength in week 5", x.at(5, 0, 3), 2);
        due("strength in week 20", x.at(20, 0, 3), 1);
    }

    // ---- Promise 10: "EVENTS from a SHEET: its items, three for each, as many as are whole, as long
    // as each may be: how many. BAD; NULL."

    static void promise10_read_sheets0To3AndNoOthers() {
        for (int s = 0; s < 4; s++) {
            BoatNames x = new BoatNames();
            x.sheet(s, 0, 3);
            due("sheet " + s, x.read(s), 1);
        }
        Edges.badAround("sheet", 3, (x, s) -> x.read(s));
    }

    static void promise10_read_aLostSheetIsNull() {
        for (int s = 0; s < 4; s++) {
            int lost = s;
            Edges.refused(Edges.EMPTY, "sheet " + s, x -> x.read(lost), NULL);
        }
        Edges.refused(Edges.SOME, "sheet 3", x -> x.read(3), NULL);
        Edges.refused(Edges.FAULTY, "sheet 0", x -> x.read(0), NULL);
        Edges.Scene lostAgain = () -> {
            BoatNames x = Edges.ALL.make();
            x.lose(2);
            return x;
        };
        Edges.refused(lostAgain, "one that was there", x -> x.read(2), NULL);
    }

    static void promise10_read_asManyAsAreWhole() {
        int[] items = {0, 1, 2, 3, 4, 5, 6, 23, 24, 25};
        int[] wants = {0, 0, 0, 1, 1, 1, 2, 7, 8, 8};
        for (int i = 0; i < items.length; i++) {
            BoatNames x = new BoatNames();
            x.sheet(1, 2, items[i]);
            due(items[i] + " items", x.read(1), wants[i]);
            due("events of " + items[i] + " items", x.count(4), wants[i]);
        }
    }

    static void promise10_read_asLongAsThereIsRoom() {
        for (int before = 0; before <= 8; before++) {
            BoatNames x = new BoatNames();
            for (int e = 0; e < before; e++) {
                x.event(1, 1, 1);
            }
            x.sheet(0, 0, 60);
            due("behind " + before, x.read(0), 8 - before);
            due("events", x.count(4), 8);
        }
    }

    static void promise10_read_whereThereIsNoRoomNothingChanges() {
        Edges.unchanged(Edges.ALL, "read", x -> x.read(2), 0);
    }

    static void promise10_read_whereNoneIsWholeNothingChanges() {
        Edges.Scene short2 = () -> {
            BoatNames x = Edges.SOME.make();
            x.sheet(3, 2, 2);
            return x;
        };
        Edges.unchanged(short2, "two items", x -> x.read(3), 0);
    }

    /** "as long as each may be": the first that may not be ends it, whatever stands behind. */
    static void promise10_read_theFirstThatMayNotBeEndsIt() {
        int[][] wrongs = {{-1, 0, 0}, {3, 0, 0}, {0, -1, 0}, {0, 24, 0}, {0, 0, -1}, {0, 0, 8}};
        for (int[] each : wrongs) {
            for (int form = 0; form < 3; form++) {
                BoatNames x = new BoatNames();
                Edges.row(x, 0, form, 2, 23, 7, each[0], each[1], each[2], 1, 1, 1);
                due("behind one", x.read(0), 1);
                due("events", x.count(4), 1);
                Edges.row(x, 0, form, each[0], each[1], each[2], 1, 1, 1);
                due("at once", x.read(0), 0);
                due("events", x.count(4), 1);
            }
        }
    }

    static void promise10_read_farNumbersMayNotBe() {
        for (int far : new int[] {LEAST, MOST, 1 << 24, 256, 65536}) {
            for (int place = 0; place < 3; place++) {
                BoatNames x = new BoatNames();
                x.sheet(0, 2, 3);
                x.put(0, 2, place, far);
                due(far + " at " + place, x.read(0), 0);
                due("events", x.count(4), 0);
            }
        }
    }

    static void promise10_read_theLeastAndTheGreatestThatMayBe() {
        for (int form = 0; form < 3; form++) {
            BoatNames x = Edges.told("101", "s0a1");
            Edges.row(x, 0, form, 0, 0, 0, 2, 23, 7, 0, 23, 7, 1, 0, 0);
            due("read", x.read(0), 4);
            due("the storm of week 23", x.first(0), 23);
        }
    }

    static void promise10_read_comesBehindTheEventsToldAndLeavesTheSheet() {
        BoatNames x = Edges.with(Edges.told("101", "s0a2"), 0, 3, 0);
        Edges.row(x, 2, 1, 0, 5, 0, 77);
        due("read", x.read(2), 1);
        due("events", x.count(4), 2);
        due("both storms", x.first(0), 5);
        Edges.rowIs("the sheet", x, 2, 1, 0, 5, 0, 77);
        due("back", x.back(), 1);
        due("the told one is left", x.at(5, 0, 3), 1);
    }
}
