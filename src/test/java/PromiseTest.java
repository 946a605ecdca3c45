/** Each promise of the document by answers worked out by hand: ordinary calls, edges and wrong inputs. */
public final class PromiseTest {
    private static final int NONE = -1, BAD = -2, NOT = -3, FULL = -4;
    private static final int NULL = -11, INDEX = -12, CAST = -13, STORE = -14, SIZE = -15;
    private static final int LEAST = Integer.MIN_VALUE, MOST = Integer.MAX_VALUE;
    private static final int[] NO_TEXT = {-1, 2, LEAST, MOST};
    private static final int[] NO_PERSON = {-1, 8, LEAST, MOST};
    private static final int[] NO_WEEK = {-1, 24, LEAST, MOST};
    private static final int[] NO_SHEET = {-1, 4, LEAST, MOST};

    private static int wrong = 0;

    public static void main(String[] args) {
        constants();
        promise1();
        promise2();
        promise3();
        promise4();
        promise5();
        promise6();
        promise7();
        promise8();
        promise9();
        promise10();
        promise11();
        promise12();
        weekOrder();
        promise13();
        promise14();
        promise15();
        promise16();
        promise17();
        promise18();
        promise19();
        promise20();
        promise21();
        promise22();
        promise23();
        promise24();
        promise25();
        promise26();
        promise27();
        promise28();
        promise29();
        promise30();
        promise31();
        promise32();
        promise33();
        promise34();
        promise35();
        promise36();
        promise37();
        promise38();
        System.out.println(wrong == 0 ? "all promises are kept" : wrong + " answers are not as promised");
        if (wrong != 0) {
            System.exit(1);
        }
    }

    private static void due(String what, long got, long want) {
        if (got != want) {
            wrong++;
            System.out.println(what + " answered " + got + ", due is " + want);
        }
    }

    private static BoatNames told(String hates, String boats) {
        BoatNames x = new BoatNames();
        typeAll(x, 0, hates);
        typeAll(x, 1, boats);
        return x;
    }

    private static void typeAll(BoatNames x, int text, String bytes) {
        for (char b : bytes.toCharArray()) {
            x.type(text, b);
        }
    }

    private static void row(BoatNames x, int s, int form, int... items) {
        x.sheet(s, form, items.length);
        for (int i = 0; i < items.length; i++) {
            x.put(s, form, i, items[i]);
        }
    }

    private static void at(String what, BoatNames x, int week, int boat, int... wants) {
        for (int i = 0; i < 4; i++) {
            due(what + ": at(" + week + ", " + boat + ", " + i + ")", x.at(week, boat, i), wants[i]);
        }
    }

    private static void constants() {
        due("NONE", BoatNames.NONE, NONE);
        due("BAD", BoatNames.BAD, BAD);
        due("NOT", BoatNames.NOT, NOT);
        due("FULL", BoatNames.FULL, FULL);
    }

    private static void promise1() {
        BoatNames x = new BoatNames();
        for (int what = 0; what < 9; what++) {
            due("1: count " + what, x.count(what), 0);
        }
        for (int s = 0; s < 4; s++) {
            due("1: a sheet is lost at first", x.lose(s), NULL);
        }
        due("1: no event", x.back(), NOT);
        due("1: nothing seen", x.forget(), 0);
        due("1: no boat", x.longs(0), BAD);
        BoatNames other = told("103", "l0a1");
        due("1: objects share nothing", x.count(1) + 10 * other.count(1), 10);
    }

    private static void promise2() {
        BoatNames x = new BoatNames();
        for (int text : NO_TEXT) {
            due("2: no such text", x.type(text, '0'), BAD);
        }
        for (int b : new int[] {-1, 256, LEAST, MOST}) {
            due("2: no byte", x.type(0, b), BAD);
        }
        due("2: byte 0", x.type(0, 0), 1);
        due("2: byte 255", x.type(0, 255), 2);
        for (int i = 3; i <= 47; i++) {
            due("2: text 0 grows", x.type(0, '0'), i);
        }
        due("2: text 0 is full", x.type(0, '0'), FULL);
        due("2: a wrong byte is told before a full text", x.type(0, 256), BAD);
        for (int i = 1; i <= 39; i++) {
            due("2: text 1 grows", x.type(1, 'l'), i);
        }
        due("2: text 1 is full", x.type(1, 'l'), FULL);
        due("2: nothing changed", x.count(2) * 100 + x.count(3), 4739);
    }

    private static void promise3() {
        BoatNames x = told("103", "l0a1;s1b2");
        for (int text : NO_TEXT) {
            due("3: no such text", x.wipe(text), BAD);
        }
        due("3: wipe", x.wipe(0), 3);
        due("3: an empty one", x.wipe(0), 0);
        due("3: the hate is gone", x.told(1, 0), 0);
        due("3: the other text stands", x.count(1), 2);
        due("3: wipe boats", x.wipe(1), 9);
        due("3: the boats are gone", x.count(1), 0);
    }

    private static void promise4() {
        BoatNames x = told("103;204", "l0a1;s");
        for (int text : NO_TEXT) {
            due("4: no such text", x.undo(text), BAD);
        }
        due("4: undo makes a fault", x.undo(0), 6);
        due("4: no hate is left", x.told(1, 0), 0);
        due("4: undo", x.undo(0), 5);
        due("4: undo", x.undo(0), 4);
        due("4: undo", x.undo(0), 3);
        due("4: the first one counts again", x.told(1, 0), 3);
        due("4: undo a boat's byte", x.undo(1), 5);
        due("4: undo a boat's byte", x.undo(1), 4);
        due("4: the boat stands", x.count(1), 1);
        due("4: down to nothing", x.undo(0) + x.undo(0) + x.undo(0), 3);
        due("4: empty", x.undo(0), NOT);
        due("4: fault of an empty text", x.fault(0), NONE);
    }

    private static void faultIs(int text, String bytes, int want) {
        BoatNames x = new BoatNames();
        typeAll(x, text, bytes);
        due("5: fault of " + bytes, x.fault(text), want);
        due("5: the other text is well", x.fault(1 - text), NONE);
    }

    private static void promise5() {
        for (int text : NO_TEXT) {
            due("5: no such text", new BoatNames().fault(text), BAD);
        }
        Object[][] hates = {
            {"", NONE}, {"8", 0}, {"/", 0}, {"0", 1}, {"07", 2}, {"08", 1}, {"77", 1}, {"070", 2}, {"07:", 2},
            {"071", NONE}, {"079", NONE}, {"071;", 4}, {"0711", 3}, {"071;7", 5}, {"071;77", 5}, {"071;701", NONE},
            {"071;;", 4}, {";", 0}, {"071;701;", 8}, {"071,701", 3}, {"a", 0}, {"01\u00b1", 2},
        };
        for (Object[] each : hates) {
            faultIs(0, (String) each[0], (Integer) each[1]);
        }
        Object[][] boats = {
            {"", NONE}, {"k", 0}, {"l", 1}, {"s", 1}, {"t", 1}, {"u", 0}, {"L", 0}, {"l8", 1}, {"l/", 1}, {"l7", 2},
            {"l7y", 2}, {"l7`", 2}, {"l7A", 2}, {"l7x", 3}, {"l7x0", 3}, {"l7x:", 3}, {"l7x9", NONE}, {"t0a1", NONE},
            {"l7x9;", 5}, {"l7x9l", 4}, {"l7x9;s", 6}, {"l7x9;s0a1", NONE}, {"l7x9;;", 5}, {";", 0},
        };
        for (Object[] each : boats) {
            faultIs(1, (String) each[0], (Integer) each[1]);
        }
        faultIs(0, "701;702;703;704;705;706;707;708;709;701;702;703", NONE);
        faultIs(1, "l0a1;l1a1;l2a1;l3a1;l4a1;l5a1;l6a1;l7a1", NONE);
    }

    private static void promise6() {
        BoatNames x = told("103;207;015;104;709", "");
        due("6: the last of like two counts", x.told(1, 0), 4);
        due("6: told", x.told(2, 0), 7);
        due("6: the other way", x.told(0, 1), 5);
        due("6: not told", x.told(0, 2), 0);
        due("6: the last person", x.told(7, 0), 9);
        due("6: one and the same", x.told(3, 3), BAD);
        for (int p : NO_PERSON) {
            due("6: no such person", x.told(p, 0), BAD);
            due("6: no such person", x.told(0, p), BAD);
        }
        x.type(0, ';');
        due("6: with a fault as if empty", x.told(1, 0), 0);
    }

    private static void promise7() {
        BoatNames x = told("", "l0a1;s3m5;t7x9");
        int[][] want = {{0, 0, 0, 1}, {1, 3, 12, 5}, {2, 7, 23, 9}};
        for (int b = 0; b < 3; b++) {
            for (int what = 0; what < 4; what++) {
                due("7: boat(" + b + ", " + what + ")", x.boat(b, what), want[b][what]);
            }
        }
        for (int b : new int[] {-1, 3, 8, LEAST, MOST}) {
            due("7: no such boat", x.boat(b, 0), BAD);
        }
        for (int what : new int[] {-1, 4, LEAST, MOST}) {
            due("7: no such thing", x.boat(0, what), BAD);
        }
        x.undo(1);
        due("7: with a fault as if empty", x.boat(0, 0), BAD);
    }

    private static void promise8() {
        BoatNames x = new BoatNames();
        for (int kind : new int[] {-1, 3, LEAST, MOST}) {
            due("8: no such kind", x.event(kind, 0, 0), BAD);
        }
        for (int week : NO_WEEK) {
            due("8: no such week", x.event(0, week, 0), BAD);
        }
        for (int b : NO_PERSON) {
            due("8: no such boat", x.event(0, 0, b), BAD);
        }
        for (int i = 1; i <= 8; i++) {
            due("8: events, of boats that are not there, too", x.event(i % 3, 23, 7), i);
        }
        due("8: full", x.event(0, 0, 0), FULL);
        due("8: bad before full", x.event(3, 0, 0), BAD);
        due("8: eight stay", x.count(4), 8);
    }

    private static void promise9() {
        BoatNames x = told("101", "l0a1");
        due("9: none", x.back(), NOT);
        x.event(2, 1, 0);
        x.event(0, 2, 0);
        due("9: a storm sinks", x.at(23, 0, 0), 2);
        due("9: back", x.back(), 1);
        due("9: made up it floats", x.at(23, 0, 0), 1);
        due("9: back", x.back(), 0);
        due("9: none any more", x.back(), NOT);
    }

    private static void promise10() {
        BoatNames x = told("101", "l0a1");
        for (int s : NO_SHEET) {
            due("10: no such sheet", x.read(s), BAD);
        }
        due("10: a lost one", x.read(2), NULL);
        due("10: the finding is kept", x.count(8), 1);
        row(x, 0, 0, 2, 1, 0, 0, 2, 0, 1, 1);
        due("10: as many as are whole", x.read(0), 2);
        due("10: two events", x.count(4), 2);
        due("10: they are as read", x.at(2, 0, 0), 2);
        BoatNames boats = told("104", "l0a3;l0a3");
        row(boats, 0, 2, 2, 1, 1);
        due("10: the boat, too", boats.read(0) + boats.at(23, 0, 2), 5);
        row(x, 1, 1, 0, 23, 7, 3, 0, 0, 0, 0, 0);
        due("10: as long as each may be", x.read(1), 1);
        due("10: behind those told", x.count(4), 3);
        row(x, 2, 2, 0, 1 << 24, 0);
        due("10: the first may not be", x.read(2), 0);
        x.sheet(3, 2, 30);
        due("10: as long as there is room", x.read(3), 5);
        due("10: eight", x.count(4), 8);
        due("10: no room", x.read(3), 0);
        x.sheet(3, 0, 2);
        x.back();
        due("10: not one is whole", x.read(3), 0);
        x.sheet(3, 0, 0);
        due("10: no items", x.read(3), 0);
        due("10: seven", x.count(4), 7);
    }

    /** One lugger of 0, strength 3, launched in week 1, named after 1, who hates by 4: sunk in week 3. */
    private static BoatNames lugger() {
        return told("104;012", "l0b3");
    }

    private static void promise11() {
        BoatNames x = lugger();
        due("11: at first", x.hates(0, 1, 0), 4);
        due("11: before it is sunk", x.hates(2, 0, 1), 2);
        due("11: the builder hates by 1 more", x.hates(3, 0, 1), 3);
        due("11: it stays so", x.hates(23, 0, 1), 3);
        due("11: the enemy as ever", x.hates(23, 1, 0), 4);
        due("11: nobody", x.hates(23, 2, 0), 0);
        for (int week : NO_WEEK) {
            due("11: no such week", x.hates(week, 1, 0), BAD);
        }
        for (int p : NO_PERSON) {
            due("11: no such person", x.hates(0, p, 0), BAD);
            due("11: no such person", x.hates(0, 0, p), BAD);
        }
        due("11: one and the same", x.hates(0, 4, 4), BAD);
        BoatNames y = told("109;019", "l0a1");
        due("11: 9 at most", y.hates(0, 0, 1), 9);
        BoatNames z = told("102;015", "l0a9");
        z.event(1, 1, 0);
        z.event(1, 2, 0);
        z.event(1, 3, 0);
        due("11: a share in week 1", z.hates(1, 1, 0), 1);
        due("11: a share in week 2", z.hates(2, 1, 0), 0);
        due("11: 0 at least", z.hates(3, 1, 0), 0);
        due("11: the builder hates on", z.hates(3, 0, 1), 5);
        z.event(2, 4, 0);
        due("11: not made up yet", z.hates(3, 0, 1), 5);
        due("11: made up", z.hates(4, 0, 1), 0);
    }

    private static void promise12() {
        BoatNames x = lugger();
        at("12", x, 0, 0, 0, NONE, 0, 3);
        at("12", x, 1, 0, 1, 1, 4, 3);
        at("12", x, 2, 0, 1, 1, 8, 3);
        at("12", x, 3, 0, 2, 1, 12, 3);
        at("12", x, 23, 0, 2, 1, 12, 3);
        for (int week : NO_WEEK) {
            due("12: no such week", x.at(week, 0, 0), BAD);
        }
        for (int b : new int[] {-1, 1, LEAST, MOST}) {
            due("12: no such boat", x.at(0, b, 0), BAD);
        }
        for (int what : new int[] {-1, 4, LEAST, MOST}) {
            due("12: no such thing", x.at(0, 0, what), BAD);
        }
        at("12: nobody hates", told("012", "s0c4"), 1, 0, 0, NONE, 0, 4);
        at("12: nobody hates", told("012", "s0c4"), 2, 0, 3, NONE, 0, 4);
        at("12: of like ones the least", told("505;305;704", "l0a9"), 0, 0, 1, 3, 5, 9);
        at("12: the greatest", told("303;504;704", "l0a9"), 0, 0, 1, 5, 4, 9);
        at("12: a smack bears half, cut", told("105", "s0a9"), 1, 0, 1, 1, 4, 9);
        at("12: a smack of 1 bears nothing", told("101", "s0a1"), 23, 0, 1, 1, 0, 1);
        at("12: three times is not more", told("103", "l0a1"), 0, 0, 1, 1, 3, 1);
        at("12: more than three times", told("103", "l0a1"), 1, 0, 2, 1, 6, 1);
    }

    private static void weekOrder() {
        BoatNames x = told("101", "l0a5;t0a5;s0b5");
        x.event(0, 1, 7);
        at("a storm takes 1 of a lugger", x, 1, 0, 1, 1, 2, 4);
        at("a storm takes 2 of a tub", x, 1, 1, 1, 1, 2, 3);
        at("a storm is ahead of the launching", x, 1, 2, 1, 1, 0, 5);
        x.event(0, 2, 0);
        at("a second one", x, 2, 1, 1, 1, 3, 1);
        at("a smack too", x, 2, 2, 1, 1, 0, 4);
        x.event(0, 3, 0);
        at("0 at least, and sunk by it", x, 3, 1, 2, 1, 4, 0);
        x.event(0, 4, 0);
        at("the sunk one is left alone", x, 4, 1, 2, 1, 4, 0);

        BoatNames dead = told("101", "s0a1");
        dead.event(0, 1, 0);
        at("strength 0 sinks without a grudge", dead, 1, 0, 2, 1, 0, 0);

        BoatNames share = told("104", "l0a3");
        share.event(1, 0, 0);
        at("a share ahead of the launching is nothing", share, 0, 0, 1, 1, 4, 3);
        share.event(1, 1, 0);
        at("a share, then the week's grudge", share, 1, 0, 1, 1, 3, 3);
        share.event(1, 1, 5);
        share.event(1, 1, 0);
        at("two shares in a week", share, 1, 0, 1, 1, 2, 3);

        BoatNames up = told("104;207", "l0a9;l0c9");
        up.event(2, 1, 0);
        at("made up with 2, it floats on", up, 23, 0, 1, 2, 7, 9);
        at("the next one is named after 1", up, 2, 1, 1, 1, 4, 9);

        BoatNames like = told("104", "l0a9;l0a9");
        like.event(1, 1, 0);
        at("one hate for both boats", like, 1, 1, 1, 1, 7, 9);
        at("the grudge is one boat's own", like, 1, 0, 1, 1, 3, 9);

        BoatNames chain = told("109", "l0a1;l1a9;l1b9");
        at("launched all at once, before any is sunk", chain, 0, 1, 3, NONE, 0, 9);
        at("hated for the sunk one", chain, 1, 2, 1, 0, 1, 9);
        BoatNames by = told("109;011", "l0a1;l1a9");
        at("sunk by numbers: the later one bears it at once", by, 0, 1, 1, 0, 2, 9);
        BoatNames by2 = told("109;011", "l1a9;l0a1");
        at("sunk by numbers: the earlier one does not", by2, 0, 0, 1, 0, 1, 9);

        BoatNames order = told("103;013", "l0a9");
        order.event(2, 1, 0);
        order.event(1, 1, 0);
        due("made up, then a share", order.hates(1, 1, 0), 0);
        at("made up, then a share", order, 1, 0, 1, 1, 0, 9);
    }

    private static void promise13() {
        BoatNames x = told("104;012", "l0b3;l1a9;s2a1");
        due("13: week 0", x.afloat(0), 1);
        due("13: week 1", x.afloat(1), 2);
        due("13: week 3", x.afloat(3), 1);
        due("13: week 23", x.afloat(23), 0);
        for (int week : NO_WEEK) {
            due("13: no such week", x.afloat(week), BAD);
        }
        due("13: no boats", new BoatNames().afloat(23), 0);
    }

    private static void promise14() {
        BoatNames x = told("104;011", "l0b3;s0a9;s1a9;l2a9");
        due("14: named after 1", x.named(1, 0), 2);
        due("14: sunk of these", x.named(1, 1), 2);
        due("14: named after 0", x.named(0, 0), 1);
        due("14: none sunk of these", x.named(0, 1), 0);
        due("14: nobody", x.named(7, 0), 0);
        due("14: nobody", x.named(7, 1), 0);
        for (int p : NO_PERSON) {
            due("14: no such person", x.named(p, 0), BAD);
        }
        for (int what : NO_TEXT) {
            due("14: no such thing", x.named(0, what), BAD);
        }
        BoatNames y = told("101", "l0x1;l0a1;s0a1");
        due("14: three", y.named(1, 0), 3);
        due("14: one of three is sunk", y.named(1, 1), 1);
    }

    private static void promise15() {
        BoatNames x = lugger();
        due("15: the week", x.first(0), 3);
        due("15: the boat", x.first(1), 0);
        for (int what : NO_TEXT) {
            due("15: no such thing", x.first(what), BAD);
        }
        BoatNames y = told("104", "l0c3;l0a9;l0b3;l0b3");
        due("15: a later boat is sunk first", y.first(0), 3);
        due("15: the least one in that week", y.first(1), 2);
        BoatNames last = told("104", "l0v3");
        due("15: in the last week", last.first(0), 23);
        due("16: hated since the last week", last.loved(), 252);
        due("18: two weeks", last.longs(0), 2);
        due("17: by the last week", told("014;104", "l1v3").bitter(), 1);
        BoatNames z = told("101", "s0a9");
        due("15: none", z.first(0), NONE);
        due("15: none", z.first(1), NONE);
    }

    private static void promise16() {
        due("16: all", new BoatNames().loved(), 255);
        due("16: but 0 and 1", lugger().loved(), 252);
        due("16: 0 alone is hated", told("701", "").loved(), 254);
        BoatNames x = told("104", "l0a9");
        due("16: 1 is hated at last", x.loved(), 252);
        x.event(2, 1, 0);
        due("16: made up", x.loved(), 255);
    }

    private static void promise17() {
        due("17: of like ones the least", new BoatNames().bitter(), 0);
        due("17: 1", lugger().bitter(), 1);
        due("17: all others together", told("109;205;235", "").bitter(), 2);
        due("17: of like ones the least", told("709;209", "").bitter(), 2);
        due("17: by week 23", told("709;018;108", "l0a1;l0a9").bitter(), 0);
    }

    private static void promise18() {
        due("18: two weeks", lugger().longs(0), 2);
        due("18: never", told("109", "l0a1").longs(0), 0);
        due("18: it rots", told("", "l0a1").longs(0), 0);
        due("18: all weeks", told("101", "s0a1").longs(0), 24);
        due("18: the last week", told("101", "s0x1").longs(0), 1);
        for (int b : new int[] {-1, 1, LEAST, MOST}) {
            due("18: no such boat", lugger().longs(b), BAD);
        }
    }

    private static void promise19() {
        BoatNames x = told("208", "l0a9");
        due("19: 2 had better hate by 5", x.wrong(0, 0), 2);
        due("19: 5, 10, 15, 20, 25", x.wrong(0, 1), 5);
        due("19: told as it was", x.told(2, 0), 8);
        due("19: as it was", x.longs(0), 3);
        BoatNames y = told("", "l0a9");
        due("19: any, the least but the builder", y.wrong(0, 0), 1);
        due("19: by 5", y.wrong(0, 1), 5);
        BoatNames z = told("", "l1a9");
        due("19: any, the least", z.wrong(0, 0), 0);
        BoatNames late = told("208", "l0x9");
        due("19: nothing helps", late.wrong(0, 0), 1);
        due("19: one week", late.wrong(0, 1), 1);
        plansAreBad("19", b -> x.wrong(b, 0), what -> x.wrong(0, what));
    }

    private interface Call {
        int of(int number);
    }

    private static void plansAreBad(String promise, Call boat, Call what) {
        for (int b : new int[] {-1, 1, LEAST, MOST}) {
            due(promise + ": no such boat", boat.of(b), BAD);
        }
        for (int w : NO_TEXT) {
            due(promise + ": no such thing", what.of(w), BAD);
        }
    }

    private static void promise20() {
        BoatNames x = told("104", "l0a3");
        due("20: in week 2", x.pay(0, 0), 2);
        due("20: five weeks", x.pay(0, 1), 5);
        for (int i = 0; i < 8; i++) {
            x.event(1, 0, 0);
        }
        due("20: whatever room", x.pay(0, 0), 2);
        due("20: whatever room", x.pay(0, 1), 5);
        due("20: no event more", x.count(4), 8);
        due("20: as it was", x.longs(0), 2);
        BoatNames up = told("103", "l0a3");
        up.event(2, 2, 0);
        due("20: of like ones the least", up.pay(0, 0), 0);
        due("20: all weeks anyhow", up.pay(0, 1), 24);
        plansAreBad("20", b -> x.pay(b, 0), what -> x.pay(0, what));
    }

    private static void promise21() {
        BoatNames x = told("104", "l0a3");
        due("21: so late that it floats", x.waits(0, 0), 22);
        due("21: none", x.waits(0, 1), 0);
        due("21: its week as it was", x.boat(0, 2), 0);
        BoatNames y = told("104", "l0a3;l0b3");
        due("21: the other is sunk", y.waits(1, 1), 1);
        due("21: so late", y.waits(1, 0), 22);
        BoatNames z = told("101", "s0m1");
        due("21: of like ones the least", z.waits(0, 0), 0);
        due("21: none", z.waits(0, 1), 0);
        plansAreBad("21", b -> x.waits(b, 0), what -> x.waits(0, what));
    }

    private static void spareIs(BoatNames x, int many, int first, int second) {
        due("22: how many", x.spare(NONE), many);
        due("22: the first", x.spare(0), first);
        due("22: the second", x.spare(1), second);
    }

    private static void promise22() {
        BoatNames x = told("101", "l0a1");
        x.event(2, 1, 0);
        spareIs(x, 0, NONE, NONE);
        x.event(0, 2, 0);
        spareIs(x, 1, 1, NONE);
        x.event(1, 2, 0);
        spareIs(x, 1, 1, NONE);
        x.event(0, 3, 0);
        spareIs(x, 2, 1, 3);
        x.event(0, 4, 0);
        spareIs(x, NONE, NONE, NONE);
        for (int i : new int[] {-2, 2, LEAST, MOST}) {
            due("22: no such one", x.spare(i), BAD);
        }
        spareIs(told("104", "l0a1"), NONE, NONE, NONE);
        BoatNames pairs = told("101", "l0w2");
        pairs.event(0, 23, 0);
        pairs.event(0, 23, 0);
        pairs.event(0, 23, 0);
        spareIs(pairs, 2, 0, 1);
        BoatNames y = told("101", "l0w2");
        y.event(0, 23, 0);
        y.event(0, 23, 1);
        spareIs(y, 1, 0, NONE);
        due("22: as many events as were", y.count(4), 2);
    }

    private static void promise23() {
        BoatNames x = new BoatNames();
        for (int week : NO_WEEK) {
            due("23: no such week", x.seen(week, 0, 0), BAD);
        }
        for (int b : NO_PERSON) {
            due("23: no such boat", x.seen(0, b, 0), BAD);
        }
        for (int p : new int[] {-1, 9, LEAST, MOST}) {
            due("23: no such person", x.seen(0, 0, p), BAD);
        }
        for (int i = 1; i <= 8; i++) {
            due("23: seen", x.seen(23, 7, 8), i);
        }
        due("23: full", x.seen(0, 0, 0), FULL);
        due("23: bad before full", x.seen(0, 0, 9), BAD);
    }

    private static void promise24() {
        BoatNames x = told("101", "l0a1");
        due("24: none", x.forget(), 0);
        x.seen(0, 0, 5);
        x.seen(0, 0, 6);
        due("24: it does not come out so", x.sort(0), 0);
        due("24: two", x.forget(), 2);
        due("24: none any more", x.forget(), 0);
        due("24: all comes out", x.sort(0), 7);
    }

    private static void promise25() {
        due("25: no events", new BoatNames().never(), 0);
        BoatNames x = told("104;203", "l0a9;l0c9");
        x.event(2, 1, 0);
        x.event(0, 1, 0);
        due("25: nothing seen", x.never(), 3);
        x.seen(2, 1, 1);
        due("25: had it not been made up", x.never(), 1);
        x.seen(1, 1, 8);
        x.seen(0, 0, 1);
        due("25: that, too", x.never(), 1);
        x.seen(23, 1, 2);
        due("25: not both", x.never(), 0);
        x.forget();
        x.seen(2, 1, 2);
        due("25: had the storm not been", x.never(), 2);
        x.seen(5, 2, 8);
        due("25: of a boat that there is not", x.never(), 0);
        BoatNames rots = told("", "l0a1");
        rots.event(0, 0, 0);
        rots.seen(23, 0, 8);
        due("25: left to rot", rots.never(), 1);
    }

    private static void promise26() {
        BoatNames x = told("104;011", "l0a3;l1e9;t1a9");
        due("26: nothing seen", x.sort(0), 7);
        x.seen(23, 1, 0);
        due("26: any", x.sort(0), 7);
        // As a lugger or a tub it is sunk in week 2, as a smack in week 4 (2, 4, 6, 8, 10).
        BoatNames y = told("104", "l0a3;l1d9");
        y.seen(3, 1, 0);
        due("26: not a smack", y.sort(0), 5);
        y.forget();
        y.seen(3, 1, 8);
        due("26: a smack", y.sort(0), 2);
        due("26: the other one's does not matter", y.sort(1), 0);
        // A storm in week 1 leaves a lugger 1, a tub 0.
        BoatNames z = told("101", "l0a2;l1c9");
        z.event(0, 1, 0);
        z.seen(2, 1, 0);
        due("26: a tub", z.sort(0), 4);
        due("26: its sort as it was", z.boat(0, 0), 0);
        for (int b : new int[] {-1, 2, LEAST, MOST}) {
            due("26: no such boat", z.sort(b), BAD);
        }
    }

    private static void promise27() {
        BoatNames x = told("105;203", "l0a9");
        due("27: nothing seen", x.hated(1, 0), 1023);
        x.seen(0, 0, 1);
        due("27: 3 and more, of like ones the least", x.hated(1, 0), 1016);
        due("27: up to 5, of like ones the least", x.hated(2, 0), 63);
        due("27: another one", x.hated(0, 1), 1023);
        x.seen(0, 0, 2);
        due("27: never both", x.hated(1, 0), 0);
        due("27: told as it was", x.told(1, 0), 5);
        twoAreBad("27", x, false);
    }

    private static void twoAreBad(String promise, BoatNames x, boolean ask) {
        for (int p : NO_PERSON) {
            due(promise + ": no such person", ask ? x.ask(p, 0) : x.hated(p, 0), BAD);
            due(promise + ": no such person", ask ? x.ask(0, p) : x.hated(0, p), BAD);
        }
        due(promise + ": one and the same", ask ? x.ask(7, 7) : x.hated(7, 7), BAD);
    }

    private static void promise28() {
        due("28: no boats", new BoatNames().ask(0, 1), 0);
        BoatNames x = told("105;203", "l0c9;l3e9;l0g9");
        due("28: 3 and 7 of them at the first launching", x.ask(1, 0), 2);
        due("28: nothing to learn", x.ask(4, 5), 0);
        due("28: 0 and 9 of them at the second one", x.ask(1, 3), 4);
        x.seen(2, 0, 1);
        due("28: those that are left are all alike", x.ask(1, 0), 0);
        x.seen(2, 0, 2);
        due("28: none is left", x.ask(1, 0), 0);
        BoatNames y = told("105", "l0a9;l0e9");
        y.event(1, 1, 0);
        y.event(1, 2, 0);
        // 0 rots at once; 1 and 2 are paid off by week 4; 3 and more still hate.
        due("28: the later week tells more", y.ask(1, 0), 4);
        twoAreBad("28", x, true);
    }

    private static void chanceIs(BoatNames x, int c, int boat, long above, long below) {
        due("29: above, by " + c, x.chance(c, boat, 0), above);
        due("29: below, by " + c, x.chance(c, boat, 1), below);
    }

    private static void promise29() {
        BoatNames x = told("101", "l0w1;s0a9");
        chanceIs(x, 5, 0, 0, 1);
        x.event(0, 23, 0);
        chanceIs(x, 4, 0, 1, 4);
        chanceIs(x, 5, 0, 5, 16);
        chanceIs(x, 0, 0, 0, 1);
        chanceIs(x, 16, 0, 1, 1);
        chanceIs(x, 4, 1, 0, 1);
        x.event(0, 23, 0);
        chanceIs(x, 4, 0, 7, 16);
        for (int i = 2; i < 8; i++) {
            x.event(0, 23, 0);
        }
        chanceIs(x, 8, 0, 255, 256);
        chanceIs(x, 1, 0, 4294967296L - 2562890625L, 4294967296L);
        chanceIs(x, 15, 0, 4294967295L, 4294967296L);
        BoatNames sure = told("109", "l0a1");
        chanceIs(sure, 3, 0, 1, 1);
        sure.event(2, 0, 0);
        chanceIs(sure, 3, 0, 1, 1);
        long bad = Long.MIN_VALUE + 2;
        for (int c : new int[] {-1, 17, LEAST, MOST}) {
            due("29: no such chance", x.chance(c, 0, 0), bad);
        }
        for (int b : new int[] {-1, 2, LEAST, MOST}) {
            due("29: no such boat", x.chance(1, b, 0), bad);
        }
        for (int what : NO_TEXT) {
            due("29: no such thing", x.chance(1, 0, what), bad);
        }
    }

    private static void promise30() {
        BoatNames x = told("101", "l0w1;s0a9;l3a1");
        x.event(0, 23, 0);
        due("30: in place of those told", x.decades(1, 0, 0), 0);
        due("30: at sea", x.decades(1, 0, 1), 2);
        due("30: those told are left", x.count(4), 1);
        BoatNames y = told("103;205", "l0b4;s0f6;t0j9");
        due("30: by seed 1", y.decades(1, 4, 0), 1);
        due("30: by seed 1", y.decades(1, 4, 1), 2);
        due("30: by seed 2", y.decades(2, 8, 0), 2);
        due("30: by seed 3", y.decades(3, 4, 1), 0);
        due("30: the same again", y.decades(1, 4, 0), 1);
        due("30: to the last week", told("104", "l0v3").decades(1, 0, 0), 1);
        due("30: no boats", told("103", "").decades(5, 8, 0), 0);
        due("30: no boats", told("103", "").decades(5, 8, 1), 0);
        for (int n : new int[] {-1, 9, LEAST, MOST}) {
            due("30: no such number", y.decades(1, n, 0), BAD);
        }
        for (int what : NO_TEXT) {
            due("30: no such thing", y.decades(1, 1, what), BAD);
        }
    }

    private static void promise31() {
        BoatNames x = new BoatNames();
        for (int s : NO_SHEET) {
            due("31: no such sheet", x.sheet(s, 0, 1), BAD);
        }
        for (int form : new int[] {-1, 3, LEAST, MOST}) {
            due("31: no such form", x.sheet(0, form, -1), BAD);
        }
        due("31: above 60", x.sheet(0, 0, 61), BAD);
        due("31: above 60", x.sheet(0, 0, MOST), BAD);
        due("31: nothing found yet", x.count(8), 0);
        due("31: size", x.sheet(0, 0, -1), SIZE);
        due("31: the finding", x.count(8), 5);
        due("31: still lost", x.lose(0), NULL);
        due("31: of 60", x.sheet(0, 2, 60), 60);
        x.put(0, 2, 5, 7);
        due("31: size", x.sheet(0, 1, LEAST), SIZE);
        due("31: the old one stands", x.get(0, 2, 5), 7);
        due("31: a new one", x.sheet(0, 1, 6), 6);
        due("31: of zeros", x.get(0, 1, 5), 0);
        due("31: of none", x.sheet(3, 0, 0), 0);
        due("31: of none", x.lose(3), 0);
    }

    private static void promise32() {
        BoatNames x = new BoatNames();
        for (int s : NO_SHEET) {
            due("32: no such sheet", x.lose(s), BAD);
        }
        due("32: lost", x.lose(1), NULL);
        due("32: the finding", x.count(8), 1);
        x.sheet(1, 0, 12);
        due("32: twelve", x.lose(1), 12);
        due("32: lost again", x.lose(1), NULL);
        due("32: lost for put", x.put(1, 0, 0, 1), NULL);
    }

    private static void promise33() {
        BoatNames x = new BoatNames();
        for (int s : NO_SHEET) {
            due("33: no such sheet", x.put(s, 0, 0, 0), BAD);
        }
        for (int form : new int[] {-1, 3, LEAST, MOST}) {
            due("33: no such form", x.put(0, form, 0, 0), BAD);
        }
        due("33: lost before all", x.put(0, 1, -1, 0), NULL);
        x.sheet(0, 0, 3);
        due("33: another form before the index", x.put(0, 1, 3, 0), CAST);
        due("33: the finding", x.count(8), 3);
        due("33: no item", x.put(0, 0, 3, 0), INDEX);
        due("33: no item", x.put(0, 0, -1, 0), INDEX);
        due("33: no item", x.put(0, 0, LEAST, 0), INDEX);
        due("33: no item", x.put(0, 0, MOST, 0), INDEX);
        due("33: the finding", x.count(8), 2);
        due("33: put", x.put(0, 0, 2, 200), 1);
        due("33: the lowest 8 bits", x.get(0, 0, 2), -56);
        due("33: the lowest 8 bits", x.put(0, 0, 0, 256 + 127) * 1000 + x.get(0, 0, 0), 1127);
        x.sheet(1, 1, 1);
        due("33: the lowest 16 bits", x.put(1, 1, 0, 40000) * 0 + x.get(1, 1, 0), 40000 - 65536);
        x.sheet(2, 2, 1);
        due("33: all bits", x.put(2, 2, 0, MOST) * 0 + x.get(2, 2, 0), MOST);
        due("33: what went well finds nothing", x.count(8), 2);
    }

    private static void getIs(BoatNames x, int s, int form, int i, int finding) {
        due("34: the least int", x.get(s, form, i), LEAST);
        due("34: the finding", x.count(8), finding);
    }

    private static void promise34() {
        BoatNames x = new BoatNames();
        getIs(x, -1, 0, 0, 0);
        getIs(x, 4, 0, 0, 0);
        getIs(x, 0, 3, 0, 0);
        getIs(x, 0, -1, 0, 0);
        getIs(x, 0, 1, 9, 1);
        x.sheet(0, 0, 2);
        getIs(x, 0, 2, 9, 3);
        getIs(x, 0, 0, 2, 2);
        getIs(x, 0, 1, 0, 3);
        getIs(x, 0, 0, -1, 2);
        getIs(x, 4, 0, 0, 2);
        x.put(0, 0, 1, 5);
        due("34: an item", x.get(0, 0, 1), 5);
        due("34: an item", x.get(0, 0, 0), 0);
    }

    private static void rowIs(BoatNames x, int s, int form, int... items) {
        for (int i = 0; i < items.length; i++) {
            due("35: item " + i, x.get(s, form, i), items[i]);
        }
    }

    private static void promise35() {
        BoatNames x = new BoatNames();
        for (int s : NO_SHEET) {
            due("35: no such sheet", x.copy(s, 0, 0, 0, 0), BAD);
            due("35: no such sheet", x.copy(0, 0, s, 0, 0), BAD);
        }
        row(x, 0, 1, 1, 2, 3, 4, 5);
        due("35: t is lost", x.copy(0, 0, 1, 0, 0), NULL);
        due("35: s is lost", x.copy(1, 0, 0, -1, 0), NULL);
        x.sheet(1, 2, 5);
        due("35: unlike forms before the index", x.copy(0, -1, 1, 0, 99), STORE);
        due("35: the finding", x.count(8), 4);
        x.sheet(1, 1, 3);
        due("35: copy", x.copy(0, 2, 1, 0, 3), 1);
        rowIs(x, 1, 1, 3, 4, 5);
        due("35: onto itself, ahead", x.copy(0, 0, 0, 1, 4), 1);
        rowIs(x, 0, 1, 1, 1, 2, 3, 4);
        due("35: onto itself, back", x.copy(0, 2, 0, 0, 3), 1);
        rowIs(x, 0, 1, 2, 3, 4, 3, 4);
        due("35: none at the end", x.copy(0, 5, 1, 3, 0), 1);
        int[][] wrongs = {{-1, 0, 1}, {0, -1, 1}, {0, 0, -1}, {3, 0, 3}, {0, 1, 3}, {6, 0, 0}, {0, 4, 0},
            {MOST, 0, 1}, {0, MOST, 1}, {0, 0, MOST}, {1, 1, MOST}, {LEAST, 0, 1}, {0, 0, LEAST}, {MOST, MOST, MOST}};
        for (int[] each : wrongs) {
            due("35: below 0, not so many", x.copy(0, each[0], 1, each[1], each[2]), INDEX);
        }
        due("35: the finding", x.count(8), 2);
        rowIs(x, 1, 1, 3, 4, 5);
    }

    private static void promise36() {
        BoatNames x = lugger();
        for (int s : NO_SHEET) {
            due("36: no such sheet", x.write(0, s), BAD);
        }
        for (int b : new int[] {-1, 1, LEAST, MOST}) {
            due("36: no such boat", x.write(b, 0), BAD);
        }
        due("36: lost", x.write(0, 0), NULL);
        due("36: the finding", x.count(8), 1);
        row(x, 0, 0, 9, 9, 9);
        due("36: as many as there are items", x.write(0, 0), 3);
        rowIs(x, 0, 0, 0, 4, 8);
        x.sheet(1, 1, 60);
        x.put(1, 1, 24, 77);
        due("36: 24 at most", x.write(0, 1), 24);
        rowIs(x, 1, 1, 0, 4, 8, 12, 12);
        due("36: the last", x.get(1, 1, 23), 12);
        due("36: behind it", x.get(1, 1, 24), 77);
        x.sheet(2, 2, 0);
        due("36: no items", x.write(0, 2), 0);
    }

    private static void promise37() {
        BoatNames x = told("104;012;104", "l0b3;s1a9");
        x.event(0, 23, 0);
        x.seen(0, 0, 8);
        x.seen(1, 0, 8);
        // 0 hates 1 by 2, the smack bears 1 a week; from week 3 on 0 hates by 3, and half of that is 1.
        int[] want = {3, 2, 11, 9, 1, 1, 7, 2, 0};
        for (int what = 0; what < 9; what++) {
            due("37: count(" + what + ")", x.count(what), want[what]);
        }
        for (int what : new int[] {-1, 9, LEAST, MOST}) {
            due("37: no such thing", x.count(what), BAD);
        }
        x.lose(0);
        due("37: the finding", x.count(8), 1);
        x.type(0, 'x');
        x.type(1, 'x');
        due("37: with a fault no hates", x.count(0), 0);
        due("37: with a fault no boats", x.count(1), 0);
        due("37: the bytes are there", x.count(2) * 100 + x.count(3), 1210);
        due("37: nothing is hated", x.count(6), 0);
    }

    private static long digestOf(BoatNames x) {
        long h = 17;
        for (int what = 0; what < 8; what++) {
            h = 31 * h + x.count(what);
        }
        h = 31 * (31 * h + x.fault(0)) + x.fault(1);
        for (int b = 0; b < x.count(1); b++) {
            for (int what = 0; what < 4; what++) {
                h = 31 * h + x.boat(b, what);
            }
            for (int week : new int[] {0, 7, 15, 23}) {
                for (int what = 0; what < 4; what++) {
                    h = 31 * h + x.at(week, b, what);
                }
            }
            h = 31 * h + x.longs(b);
            h = 31 * (31 * h + x.wrong(b, 0)) + x.wrong(b, 1);
            h = 31 * (31 * h + x.pay(b, 0)) + x.pay(b, 1);
            h = 31 * (31 * h + x.waits(b, 0)) + x.waits(b, 1);
            h = 31 * h + x.sort(b);
            h = 31 * (31 * h + x.chance(5, b, 0)) + x.chance(5, b, 1);
        }
        for (int p = 0; p < 8; p++) {
            int next = (p + 1) % 8;
            h = 31 * (31 * h + x.named(p, 0)) + x.named(p, 1);
            h = 31 * h + x.hates(23, p, next);
            h = 31 * (31 * h + x.hated(p, next)) + x.ask(p, next);
        }
        for (int week = 0; week < 24; week++) {
            h = 31 * h + x.afloat(week);
        }
        h = 31 * (31 * h + x.first(0)) + x.first(1);
        h = 31 * (31 * h + x.loved()) + x.bitter();
        h = 31 * (31 * h + x.spare(NONE)) + x.spare(0);
        h = 31 * h + x.never();
        return 31 * (31 * h + x.decades(7, 6, 0)) + x.decades(7, 6, 1);
    }

    private static void promise38() {
        BoatNames x = new BoatNames();
        due("38: a new one", x.digest(), digestOf(x));
        BoatNames y = told("103;205;301;012;716;527;034;121;643;416;255;378", "l0a5;s1b3;t2c9;l3d1;s4e6;t0f8;l5g7;s1h2");
        for (int i = 0; i < 8; i++) {
            y.event(i % 3, 2 * i + 1, i);
            y.seen(3 * i, i, 8 - i);
        }
        due("38: a full one", y.digest(), digestOf(y));
        y.lose(0);
        long before = y.digest();
        due("38: it changes nothing", y.digest(), before);
        due("38: it finds nothing", y.count(8), 1);
        BoatNames z = told("103;205", "l0b4;s0f6;t0j9");
        z.event(2, 3, 0);
        z.event(1, 4, 1);
        due("38: as a run of the shared tests has it", z.digest(), 4947155004637592333L);
    }
}
