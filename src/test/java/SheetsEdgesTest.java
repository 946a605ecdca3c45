import java.math.BigInteger;
import java.util.ArrayList;
import java.util.List;

/** Promises 31 to 38 at their edges: sheets and findings, counts, the digest, and an object's last call. */
public final class SheetsEdgesTest {
    private static final int NONE = Edges.NONE, BAD = Edges.BAD, FULL = Edges.FULL;
    private static final int NULL = Edges.NULL, INDEX = Edges.INDEX, CAST = Edges.CAST, STORE = Edges.STORE, SIZE = Edges.SIZE;
    private static final int LEAST = Edges.LEAST, MOST = Edges.MOST;
    private static final int BYTES = 0, SHORTS = 1, INTS = 2;

    public static void main(String[] args) {
        Edges.run(SheetsEdgesTest.class);
    }

    private static void due(String what, long got, long want) {
        Edges.due(what, got, want);
    }

    private static Edges.Scene lostIn(Edges.Scene scene, int s) {
        return () -> {
            BoatNames x = scene.make();
            x.lose(s);
            return x;
        };
    }

    // ---- Promise 31: "A SHEET is a new row of a FORM with n items: n. BAD: SHEET, FORM, above 60; SIZE."

    static void promise31_sheet_sheets0To3AndNoOthers() {
        for (int s = 0; s < 4; s++) {
            due("sheet " + s, new BoatNames().sheet(s, BYTES, 1), 1);
        }
        Edges.badAround("sheet", 3, (x, s) -> x.sheet(s, BYTES, 1));
    }

    static void promise31_sheet_forms0To2AndNoOthers() {
        for (int form = 0; form < 3; form++) {
            due("form " + form, new BoatNames().sheet(0, form, 1), 1);
        }
        Edges.badAround("form", 2, (x, form) -> x.sheet(0, form, 1));
    }

    /** Terms: "of 0 to 60 items". */
    static void promise31_sheet_0To60ItemsAndMoreAreBad() {
        for (int form = 0; form < 3; form++) {
            int each = form;
            for (int n : new int[] {0, 1, 59, 60}) {
                BoatNames x = new BoatNames();
                due("items", x.sheet(3, form, n), n);
                due("the one behind the last", x.put(3, form, n, 1), INDEX);
                due("the last", n == 0 ? 1 : x.put(3, form, n - 1, 1), 1);
                due("all", x.lose(3), n);
            }
            for (int n : new int[] {61, 62, 1000, MOST}) {
                Edges.bad(n + " items", x -> x.sheet(1, each, n));
            }
        }
    }

    static void promise31_sheet_below0IsSize() {
        for (Edges.Scene scene : Edges.SCENES) {
            for (int n : new int[] {-1, -2, LEAST}) {
                Edges.refused(scene, n + " items", x -> x.sheet(1, INTS, n), SIZE);
            }
        }
    }

    static void promise31_sheet_badIsAheadOfSize() {
        Edges.bad("sheet", x -> x.sheet(4, BYTES, -1));
        Edges.bad("sheet", x -> x.sheet(-1, BYTES, LEAST));
        Edges.bad("form", x -> x.sheet(0, 3, -1));
        Edges.bad("form", x -> x.sheet(0, -1, LEAST));
    }

    /** Terms: "(0 at first)". */
    static void promise31_sheet_itemsAre0AtFirst() {
        for (int form = 0; form < 3; form++) {
            BoatNames x = new BoatNames();
            x.sheet(2, form, 60);
            for (int i = 0; i < 60; i++) {
                due("item " + i, x.get(2, form, i), 0);
            }
        }
    }

    static void promise31_sheet_aNewRowHoldsNothingOfTheOldOne() {
        BoatNames x = new BoatNames();
        Edges.row(x, 0, INTS, 1, 2, 3, 4);
        due("fewer items", x.sheet(0, INTS, 2), 2);
        Edges.rowIs("of zeros", x, 0, INTS, 0, 0);
        due("no third one", x.put(0, INTS, 2, 9), INDEX);
        due("more items", x.sheet(0, INTS, 4), 4);
        Edges.rowIs("of zeros", x, 0, INTS, 0, 0, 0, 0);
        x.put(0, INTS, 3, 7);
        due("another form", x.sheet(0, BYTES, 4), 4);
        Edges.rowIs("of zeros", x, 0, BYTES, 0, 0, 0, 0);
        due("the old form", x.put(0, INTS, 0, 1), CAST);
        x.put(0, BYTES, 1, 7);
        x.lose(0);
        x.sheet(0, BYTES, 4);
        Edges.rowIs("of zeros behind a lost one", x, 0, BYTES, 0, 0, 0, 0);
    }

    static void promise31_sheet_theOthersStand() {
        BoatNames x = Edges.SOME.make();
        x.sheet(1, BYTES, 2);
        Edges.rowIs("0", x, 0, BYTES, 1, 22, 3);
        Edges.rowIs("2", x, 2, INTS, 70000, -7, 1 << 30, 0, 9);
        due("3", x.lose(3), NULL);
    }

    // ---- Promise 32: "It is LOST: how many items it had. BAD; NULL."

    static void promise32_lose_sheets0To3AndNoOthers() {
        for (int s = 0; s < 4; s++) {
            BoatNames x = new BoatNames();
            x.sheet(s, SHORTS, 7);
            due("sheet " + s, x.lose(s), 7);
        }
        Edges.badAround("sheet", 3, (x, s) -> x.lose(s));
    }

    static void promise32_lose_aLostOneIsNull() {
        for (int s = 0; s < 4; s++) {
            int lost = s;
            Edges.refused(Edges.EMPTY, "at first", x -> x.lose(lost), NULL);
            Edges.refused(lostIn(Edges.ALL, s), "lost before", x -> x.lose(lost), NULL);
        }
        Edges.refused(Edges.SOME, "at first", x -> x.lose(3), NULL);
    }

    static void promise32_lose_0And60Items() {
        BoatNames x = new BoatNames();
        x.sheet(0, BYTES, 0);
        x.sheet(1, BYTES, 60);
        due("a row of no items is not lost", x.lose(0), 0);
        due("it is now", x.lose(0), NULL);
        due("60", x.lose(1), 60);
        due("it is lost", x.lose(1), NULL);
    }

    // ---- Promise 33: "Item i, treated as of a FORM, becomes v (the lowest bits that it has): 1. BAD; NULL; CAST; INDEX."

    static void promise33_put_sheets0To3AndNoOthers() {
        for (int s = 0; s < 4; s++) {
            BoatNames x = new BoatNames();
            x.sheet(s, SHORTS, 1);
            due("sheet " + s, x.put(s, SHORTS, 0, 5), 1);
            due("sheet " + s, x.get(s, SHORTS, 0), 5);
        }
        Edges.badAround("sheet", 3, (x, s) -> x.put(s, BYTES, 0, 5));
    }

    static void promise33_put_forms0To2AndNoOthers() {
        Edges.badAround("form", 2, (x, form) -> x.put(0, form, 0, 5));
    }

    static void promise33_put_aLostSheetIsNull() {
        for (int form = 0; form < 3; form++) {
            int each = form;
            Edges.refused(Edges.EMPTY, "at first", x -> x.put(0, each, 0, 5), NULL);
            Edges.refused(Edges.SOME, "at first", x -> x.put(3, each, 0, 5), NULL);
            Edges.refused(lostIn(Edges.SOME, 0), "lost", x -> x.put(0, each, 0, 5), NULL);
        }
    }

    static void promise33_put_anotherFormIsCast() {
        for (int s = 0; s < 3; s++) {
            for (int form = 0; form < 3; form++) {
                int sheet = s;
                int each = form;
                if (s != form) {
                    Edges.refused(Edges.SOME, "sheet " + s + " as " + form, x -> x.put(sheet, each, 0, 5), CAST);
                }
            }
        }
    }

    static void promise33_put_noSuchItemIsIndex() {
        for (int i : new int[] {-1, 3, 4, 60, 61, LEAST, MOST}) {
            Edges.refused(Edges.SOME, "item " + i, x -> x.put(0, BYTES, i, 5), INDEX);
        }
        due("the last one", Edges.SOME.make().put(0, BYTES, 2, 5), 1);
        BoatNames x = new BoatNames();
        x.sheet(0, INTS, 0);
        due("of none", x.put(0, INTS, 0, 5), INDEX);
        x.sheet(0, INTS, 60);
        due("the first of 60", x.put(0, INTS, 0, 5), 1);
        due("the last of 60", x.put(0, INTS, 59, 6), 1);
        due("behind 60", x.put(0, INTS, 60, 7), INDEX);
        due("all are kept", x.get(0, INTS, 0) * 10 + x.get(0, INTS, 59), 56);
    }

    static void promise33_put_badNullCastIndexInThisOrder() {
        Edges.refused(Edges.EMPTY, "BAD ahead of NULL", x -> x.put(0, 3, 99, 5), BAD);
        Edges.refused(Edges.EMPTY, "NULL ahead of INDEX", x -> x.put(0, BYTES, 99, 5), NULL);
        Edges.refused(lostIn(Edges.SOME, 1), "NULL ahead of CAST", x -> x.put(1, INTS, 99, 5), NULL);
        Edges.refused(Edges.SOME, "BAD ahead of CAST and INDEX", x -> x.put(1, -1, 99, 5), BAD);
        Edges.refused(Edges.SOME, "CAST ahead of INDEX", x -> x.put(1, BYTES, 99, 5), CAST);
        Edges.refused(Edges.SOME, "CAST ahead of INDEX", x -> x.put(1, BYTES, -1, 5), CAST);
    }

    private static void kept(int form, int v, int want) {
        BoatNames x = new BoatNames();
        x.sheet(0, form, 3);
        due("put " + v, x.put(0, form, 1, v), 1);
        due("kept of " + v, x.get(0, form, 1), want);
        due("ahead of it", x.get(0, form, 0), 0);
        due("behind it", x.get(0, form, 2), 0);
    }

    /** "the lowest bits that it has". */
    static void promise33_put_aByteHas8Bits() {
        int[][] pairs = {{0, 0}, {1, 1}, {-1, -1}, {127, 127}, {128, -128}, {-128, -128}, {-129, 127}, {255, -1}, {256, 0},
            {257, 1}, {511, -1}, {65536 + 128, -128}, {MOST, -1}, {LEAST, 0}, {LEAST + 127, 127}};
        for (int[] each : pairs) {
            kept(BYTES, each[0], each[1]);
        }
    }

    static void promise33_put_aShortHas16Bits() {
        int[][] pairs = {{0, 0}, {-1, -1}, {127, 127}, {128, 128}, {255, 255}, {32767, 32767}, {32768, -32768},
            {-32768, -32768}, {-32769, 32767}, {65535, -1}, {65536, 0}, {65537, 1}, {MOST, -1}, {LEAST, 0}};
        for (int[] each : pairs) {
            kept(SHORTS, each[0], each[1]);
        }
    }

    static void promise33_put_anIntHasAll32Bits() {
        for (int v : new int[] {0, 1, -1, 127, 128, 32768, 65536, MOST, LEAST, LEAST + 1}) {
            kept(INTS, v, v);
        }
    }

    // ---- Promise 34: "Item i of it. BAD: the least int; so are NULL, CAST, INDEX (count() 8 tells)."

    private static void leastInt(Edges.Scene scene, String what, Edges.Call call, int finding) {
        Edges.refused(scene, what, call, LEAST, finding);
    }

    static void promise34_get_badIsTheLeastIntAndNoFinding() {
        for (Edges.Scene scene : Edges.SCENES) {
            int latest = scene.make().count(8);
            for (int number : new int[] {-1, 4, LEAST, MOST}) {
                leastInt(scene, "sheet " + number, x -> x.get(number, BYTES, 0), latest);
            }
            for (int number : new int[] {-1, 3, LEAST, MOST}) {
                leastInt(scene, "form " + number, x -> x.get(0, number, 0), latest);
            }
        }
    }

    static void promise34_get_nullIsTheLeastIntAndFinding1() {
        for (int s = 0; s < 4; s++) {
            int lost = s;
            leastInt(Edges.EMPTY, "at first", x -> x.get(lost, BYTES, 0), 1);
            leastInt(lostIn(Edges.ALL, s), "lost", x -> x.get(lost, INTS, 0), 1);
        }
    }

    static void promise34_get_castIsTheLeastIntAndFinding3() {
        for (int s = 0; s < 3; s++) {
            int sheet = s;
            leastInt(Edges.SOME, "the next form", x -> x.get(sheet, (sheet + 1) % 3, 0), 3);
            leastInt(Edges.SOME, "the form ahead", x -> x.get(sheet, (sheet + 2) % 3, 0), 3);
        }
    }

    static void promise34_get_indexIsTheLeastIntAndFinding2() {
        for (int i : new int[] {-1, 4, 5, 59, 60, LEAST, MOST}) {
            leastInt(Edges.SOME, "item " + i, x -> x.get(1, SHORTS, i), 2);
        }
        due("the last one", Edges.SOME.make().get(1, SHORTS, 3), 6);
        due("the first one", Edges.SOME.make().get(1, SHORTS, 0), 300);
    }

    static void promise34_get_badNullCastIndexInThisOrder() {
        leastInt(Edges.SOME, "BAD ahead of NULL", x -> x.get(3, 3, 99), 2);
        leastInt(Edges.SOME, "NULL ahead of INDEX", x -> x.get(3, BYTES, 99), 1);
        leastInt(lostIn(Edges.SOME, 1), "NULL ahead of CAST", x -> x.get(1, BYTES, -1), 1);
        leastInt(Edges.SOME, "CAST ahead of INDEX", x -> x.get(1, BYTES, -1), 3);
    }

    static void promise34_get_anItemMayBeTheLeastIntItself() {
        BoatNames x = new BoatNames();
        x.sheet(0, INTS, 1);
        x.put(0, INTS, 0, LEAST);
        due("the item", x.get(0, INTS, 0), LEAST);
        due("no finding", x.count(8), 0);
    }

    // ---- Promise 35: "n items of SHEET s, from i on, come to SHEET t (perhaps s, as they were), from j on:
    // 1. BAD: the SHEETS; NULL: s, t; STORE; INDEX: below 0, not so many."

    private static BoatNames twoRows() {
        BoatNames x = new BoatNames();
        Edges.row(x, 0, SHORTS, 1, 2, 3, 4, 5);
        Edges.row(x, 1, SHORTS, 10, 20, 30);
        Edges.row(x, 2, INTS, 7, 8, 9);
        return x;
    }

    private static final Edges.Scene TWO_ROWS = SheetsEdgesTest::twoRows;

    static void promise35_copy_sheets0To3AndNoOthers() {
        Edges.badAround("s", 3, (x, s) -> x.copy(s, 0, 0, 0, 0));
        Edges.badAround("t", 3, (x, t) -> x.copy(0, 0, t, 0, 0));
        BoatNames x = new BoatNames();
        x.sheet(3, BYTES, 1);
        due("3 to 3", x.copy(3, 0, 3, 0, 1), 1);
    }

    static void promise35_copy_aLostSheetIsNull() {
        Edges.refused(TWO_ROWS, "s", x -> x.copy(3, 0, 0, 0, 1), NULL);
        Edges.refused(TWO_ROWS, "t", x -> x.copy(0, 0, 3, 0, 1), NULL);
        Edges.refused(TWO_ROWS, "both", x -> x.copy(3, 0, 3, 0, 0), NULL);
        Edges.refused(Edges.EMPTY, "both", x -> x.copy(0, 0, 1, 0, 0), NULL);
    }

    static void promise35_copy_unlikeFormsAreStore() {
        Edges.refused(TWO_ROWS, "shorts to ints", x -> x.copy(0, 0, 2, 0, 1), STORE);
        Edges.refused(TWO_ROWS, "ints to shorts", x -> x.copy(2, 0, 0, 0, 1), STORE);
        Edges.refused(TWO_ROWS, "none of them", x -> x.copy(0, 0, 2, 0, 0), STORE);
        Edges.refused(Edges.SOME, "bytes to shorts", x -> x.copy(0, 0, 1, 0, 1), STORE);
    }

    static void promise35_copy_below0OrNotSoManyIsIndex() {
        int[][] wrongs = {{-1, 0, 1}, {0, -1, 1}, {0, 0, -1}, {-1, 0, 0}, {0, -1, 0}, {5, 0, 1}, {0, 3, 1}, {3, 0, 3}, {0, 1, 3},
            {0, 0, 4}, {6, 0, 0}, {0, 4, 0}, {0, 0, 6}, {0, 0, 61}, {1, 0, -1}, {LEAST, 0, 1}, {0, LEAST, 1}, {0, 0, LEAST},
            {MOST, 0, 1}, {0, MOST, 1}, {0, 0, MOST}, {1, 1, MOST}, {MOST, MOST, MOST}, {LEAST, LEAST, LEAST},
            {MOST, 0, 2}, {LEAST, 0, LEAST}, {-1, -1, 2}, {5, 3, -1}};
        for (int[] each : wrongs) {
            String what = each[0] + ", " + each[1] + ", " + each[2];
            Edges.refused(TWO_ROWS, what, x -> x.copy(0, each[0], 1, each[1], each[2]), INDEX);
        }
    }

    static void promise35_copy_badNullStoreIndexInThisOrder() {
        Edges.refused(TWO_ROWS, "BAD ahead of NULL", x -> x.copy(3, -1, 4, -1, -1), BAD);
        Edges.refused(TWO_ROWS, "BAD ahead of NULL", x -> x.copy(-1, -1, 3, -1, -1), BAD);
        Edges.refused(TWO_ROWS, "NULL ahead of STORE and INDEX", x -> x.copy(2, -1, 3, -1, -1), NULL);
        Edges.refused(TWO_ROWS, "NULL ahead of STORE and INDEX", x -> x.copy(3, 99, 2, 99, 99), NULL);
        Edges.refused(TWO_ROWS, "STORE ahead of INDEX", x -> x.copy(0, -1, 2, 0, 1), STORE);
        Edges.refused(TWO_ROWS, "STORE ahead of INDEX", x -> x.copy(0, 0, 2, 0, 99), STORE);
    }

    static void promise35_copy_theLastThatThereAre() {
        BoatNames x = twoRows();
        due("all of t", x.copy(0, 2, 1, 0, 3), 1);
        Edges.rowIs("t", x, 1, SHORTS, 3, 4, 5);
        due("the last one to the last one", x.copy(0, 0, 1, 2, 1), 1);
        Edges.rowIs("t", x, 1, SHORTS, 3, 4, 1);
        due("all of s", x.copy(1, 0, 0, 2, 3), 1);
        Edges.rowIs("s", x, 0, SHORTS, 1, 2, 3, 4, 1);
    }

    static void promise35_copy_none() {
        Edges.unchanged(TWO_ROWS, "none from the front", x -> x.copy(0, 0, 1, 0, 0), 1);
        Edges.unchanged(TWO_ROWS, "none from the end", x -> x.copy(0, 5, 1, 3, 0), 1);
        BoatNames x = new BoatNames();
        x.sheet(0, BYTES, 0);
        due("none of none", x.copy(0, 0, 0, 0, 0), 1);
        due("one of none", x.copy(0, 0, 0, 0, 1), INDEX);
    }

    /** "(perhaps s, as they were)". */
    static void promise35_copy_ontoItselfTheyComeAsTheyWere() {
        BoatNames x = twoRows();
        due("one on", x.copy(0, 0, 0, 1, 4), 1);
        Edges.rowIs("one on", x, 0, SHORTS, 1, 1, 2, 3, 4);
        x = twoRows();
        due("one back", x.copy(0, 1, 0, 0, 4), 1);
        Edges.rowIs("one back", x, 0, SHORTS, 2, 3, 4, 5, 5);
        Edges.unchanged(TWO_ROWS, "all in their places", y -> y.copy(0, 0, 0, 0, 5), 1);
    }

    static void promise35_copy_allSixty() {
        BoatNames x = new BoatNames();
        x.sheet(0, INTS, 60);
        x.sheet(1, INTS, 60);
        for (int i = 0; i < 60; i++) {
            x.put(0, INTS, i, 1000 * i + 1);
        }
        due("61", x.copy(0, 0, 1, 0, 61), INDEX);
        due("60", x.copy(0, 0, 1, 0, 60), 1);
        for (int i = 0; i < 60; i++) {
            due("item " + i, x.get(1, INTS, i), 1000 * i + 1);
        }
    }

    // ---- Promise 36: "The GRUDGE of a BOAT behind WEEKS 0 on comes to a SHEET from item 0 on, as many as
    // there are items, 24 at most: how many. BAD; NULL."

    static void promise36_write_theLastBoatThatThereIsAndTheNext() {
        Edges.refusedAround(Edges.SOME, "boat", 2, (x, b) -> x.write(b, 0), BAD);
        Edges.refusedAround(Edges.ALL, "boat", 7, (x, b) -> x.write(b, 0), BAD);
        Edges.refusedAround(Edges.FAULTY, "boat", -1, (x, b) -> x.write(b, 1), BAD);
        due("the last of all", Edges.ALL.make().write(7, 0), 3);
    }

    static void promise36_write_sheets0To3AndNoOthers() {
        Edges.refusedAround(Edges.SOME, "sheet", 3, (x, s) -> x.write(0, s), BAD);
        Edges.refusedAround(Edges.ALL, "sheet", 3, (x, s) -> x.write(0, s), BAD);
        due("sheet 3", Edges.ALL.make().write(0, 3), 4);
    }

    static void promise36_write_aLostSheetIsNull() {
        Edges.refused(Edges.SOME, "sheet 3", x -> x.write(0, 3), NULL);
        Edges.refused(lostIn(Edges.ALL, 2), "sheet 2", x -> x.write(7, 2), NULL);
    }

    static void promise36_write_badIsAheadOfNull() {
        Edges.refused(Edges.EMPTY, "no boat, no sheet", x -> x.write(0, 0), BAD);
        Edges.refused(Edges.SOME, "no boat, no sheet", x -> x.write(3, 3), BAD);
    }

    static void promise36_write_asManyAsThereAreItemsAnd24AtMost() {
        int[] grudges = {9, 18, 27, 36};
        for (int n : new int[] {0, 1, 2, 23, 24, 25, 60}) {
            for (int form = 0; form < 3; form++) {
                BoatNames x = Edges.told("109", "l0a9");
                x.sheet(1, form, n);
                for (int i = 0; i < n; i++) {
                    x.put(1, form, i, 99);
                }
                due(n + " items", x.write(0, 1), Math.min(n, 24));
                for (int i = 0; i < n; i++) {
                    due("item " + i + " of " + n, x.get(1, form, i), i >= 24 ? 99 : grudges[Math.min(i, 3)]);
                }
                due("as many items as ever", x.lose(1), n);
            }
        }
    }

    static void promise36_write_0WhereThereIsNoGrudge() {
        BoatNames x = Edges.told("101", "l3a9;l0x9");
        Edges.row(x, 0, BYTES, 5, 5);
        due("it rots", x.write(0, 0), 2);
        Edges.rowIs("it rots", x, 0, BYTES, 0, 0);
        x.sheet(1, SHORTS, 24);
        due("launched in week 23", x.write(1, 1), 24);
        due("behind week 22", x.get(1, SHORTS, 22), 0);
        due("behind week 23", x.get(1, SHORTS, 23), 1);
    }

    static void promise36_write_changesNothingElse() {
        BoatNames x = Edges.SOME.make();
        x.sheet(3, BYTES, 0);
        long before = x.digest();
        due("to no items", x.write(0, 3), 0);
        due("to three", x.write(1, 0), 3);
        due("what is told", x.digest(), before);
        due("the finding", x.count(8), 2);
        Edges.rowIs("another sheet", x, 1, SHORTS, 300, -300, 5, 6);
    }

    // ---- Promise 37: "0 HATES told, 1 BOATS, 2, 3 bytes of texts, 4 EVENTS, 5 how many BOATS are SUNK, 6 all that
    // is hated behind WEEK 23, together, 7 SEEN, 8 the number of the latest FINDING (0 before any). BAD."

    static void promise37_count_what0To8AndNoOthers() {
        Edges.badAround("what", 8, (x, what) -> x.count(what));
    }

    static void promise37_count_ofAnEmptyOneAndOfAFullOne() {
        BoatNames full = Edges.told(Edges.times("349", 11) + ";109", Edges.times("l0a1", 8));
        for (int i = 0; i < 8; i++) {
            full.event(0, 23, 0);
            full.seen(0, 0, 0);
        }
        full.sheet(0, 0, -1);
        // 3 hates 4 by 9, 1 hates 0 by 9, 0 hates 1 by 1 for each of eight boats.
        int[] wants = {12, 8, 47, 39, 8, 8, 26, 8, 5};
        for (int what = 0; what <= 8; what++) {
            due("empty " + what, new BoatNames().count(what), 0);
            due("full " + what, full.count(what), wants[what]);
        }
    }

    static void promise37_count_theMostThatIsHated() {
        due("12 by 9", Edges.told("019;029;039;049;059;069;079;109;129;139;149;159", "").count(6), 108);
        due("1 more by a boat sunk in week 23", Edges.told("109", "l0x1").count(6), 10);
        due("9 at most", Edges.told("109;019", "l0x1").count(6), 18);
        due("not by one that would be sunk in week 24", Edges.told("102", "l0x1").count(6), 2);
        due("nor is that one sunk", Edges.told("102", "l0x1").count(5), 0);
    }

    /** Terms: "FINDINGS (answers -10 less the number; they change nothing but count() 8)". */
    static void promise37_count_eachFindingIsTheLatest() {
        BoatNames x = new BoatNames();
        due("before any", x.count(8), 0);
        due("NULL", x.lose(0), -11);
        due("NULL", x.count(8), 1);
        due("SIZE", x.sheet(0, 0, -1), -15);
        due("SIZE", x.count(8), 5);
        x.sheet(0, BYTES, 1);
        x.sheet(1, INTS, 1);
        due("what goes well finds nothing", x.count(8), 5);
        due("STORE", x.copy(0, 0, 1, 0, 1), -14);
        due("STORE", x.count(8), 4);
        due("CAST", x.put(0, INTS, 0, 0), -13);
        due("CAST", x.count(8), 3);
        due("INDEX", x.put(0, BYTES, 1, 0), -12);
        due("INDEX", x.count(8), 2);
    }

    static void promise37_count_noOtherRefusalIsAFinding() {
        BoatNames x = Edges.ALL.make();
        int latest = x.count(8);
        due("FULL", x.type(0, '0') + x.event(0, 0, 0) + x.seen(0, 0, 0), 3 * FULL);
        due("BAD", x.type(2, 0) + x.count(9) + x.sheet(4, 0, -1), 3 * BAD);
        due("the latest finding", x.count(8), latest);
        BoatNames y = new BoatNames();
        due("NOT", y.undo(0) + y.back(), 2 * Edges.NOT);
        due("BAD", y.get(4, 0, 0), LEAST);
        due("no finding", y.count(8), 0);
    }

    // ---- Promise 38: "h is 17; h becomes 31 h and each of: ...; as longs that wrap."

    private static long folded(List<Long> all) {
        BigInteger h = BigInteger.valueOf(17);
        for (long each : all) {
            h = h.multiply(BigInteger.valueOf(31)).add(BigInteger.valueOf(each));
        }
        return h.longValue();
    }

    private static void addAll(List<Long> all, long... more) {
        for (long each : more) {
            all.add(each);
        }
    }

    static void promise38_digest_ofANewObject() {
        List<Long> all = new ArrayList<>();
        addAll(all, 0, 0, 0, 0, 0, 0, 0, 0, NONE, NONE);
        for (int p = 0; p < 8; p++) {
            addAll(all, 0, 0, 0, 1023, 0);
        }
        addAll(all, new long[24]);
        addAll(all, NONE, NONE, 255, 0, 0, NONE, 0, 0, 0);
        due("digest", new BoatNames().digest(), folded(all));
    }

    private static List<Long> digested(BoatNames x) {
        List<Long> all = new ArrayList<>();
        for (int what = 0; what <= 7; what++) {
            addAll(all, x.count(what));
        }
        addAll(all, x.fault(0), x.fault(1));
        for (int b = 0; b < x.count(1); b++) {
            addAll(all, x.boat(b, 0), x.boat(b, 1), x.boat(b, 2), x.boat(b, 3));
            for (int week : new int[] {0, 7, 15, 23}) {
                addAll(all, x.at(week, b, 0), x.at(week, b, 1), x.at(week, b, 2), x.at(week, b, 3));
            }
            addAll(all, x.longs(b), x.wrong(b, 0), x.wrong(b, 1), x.pay(b, 0), x.pay(b, 1), x.waits(b, 0), x.waits(b, 1));
            addAll(all, x.sort(b), x.chance(5, b, 0), x.chance(5, b, 1));
        }
        for (int p = 0; p < 8; p++) {
            int next = p == 7 ? 0 : p + 1;
            addAll(all, x.named(p, 0), x.named(p, 1), x.hates(23, p, next), x.hated(p, next), x.ask(p, next));
        }
        for (int week = 0; week < 24; week++) {
            addAll(all, x.afloat(week));
        }
        addAll(all, x.first(0), x.first(1), x.loved(), x.bitter(), x.spare(NONE), x.spare(0), x.never());
        addAll(all, x.decades(7, 6, 0), x.decades(7, 6, 1));
        return all;
    }

    static void promise38_digest_ofEachScene() {
        for (Edges.Scene scene : Edges.SCENES) {
            due("digest", scene.make().digest(), folded(digested(scene.make())));
        }
    }

    static void promise38_digest_ofVillagesWithSomethingToSpare() {
        // By seed 7 the sixth event spares the first one's lugger: five of them would not.
        String[][] villages = {{"105", "l0a9"}, {"101;342", "s0a1;l4x9"}, {"103;205;012", "l0b1;s0f2;t1j3"},
            {"017;103", "t0c6;t1c6;s1e1"}};
        for (String[] each : villages) {
            for (int storms = 0; storms <= 3; storms++) {
                Edges.Scene scene = () -> Edges.told(each[0], each[1]);
                BoatNames x = scene.make();
                BoatNames y = scene.make();
                for (int e = 0; e < storms; e++) {
                    x.event(0, 3 + e, 0);
                    y.event(0, 3 + e, 0);
                }
                due(each[1] + ", " + storms, x.digest(), folded(digested(y)));
            }
        }
    }

    /** "the next one, 0 behind 7". */
    static void promise38_digest_behind7Comes0() {
        BoatNames x = Edges.told("705", "l0m9");
        due("digest", x.digest(), folded(digested(x)));
        BoatNames other = Edges.told("706", "l0m9");
        due("another one", x.digest() == other.digest() ? 1 : 0, 0);
    }

    static void promise38_digest_aFindingIsNotInIt() {
        BoatNames x = Edges.SOME.make();
        long before = x.digest();
        x.sheet(0, 0, -1);
        due("digest", x.digest(), before);
    }

    static void promise38_digest_changesNothing() {
        for (Edges.Scene scene : Edges.SCENES) {
            BoatNames x = scene.make();
            int latest = x.count(8);
            x.digest();
            due("the finding", x.count(8), latest);
            Edges.same("what is held", Edges.look(x), Edges.look(scene.make()));
        }
    }

    // ---- "An object is used for at most 512 calls after it has been made"

    static void terms_object_the512thCallIsAnsweredAsEver() {
        BoatNames x = new BoatNames();
        for (int call = 1; call <= 508; call += 2) {
            due("type", x.type(0, '1'), 1);
            due("undo", x.undo(0), 0);
        }
        x.type(0, '1');
        x.type(0, '0');
        due("call 511", x.type(0, '9'), 3);
        due("call 512", x.told(1, 0), 9);
    }
}
