/** Boundary cases of promises 37 to 40: sheets. */
final class SheetsEdges extends Edge {
    // Whole.rich() has sheet 0 of three bytes, 1 of two shorts, 3 of one long, and 2 is missing.
    private static final int MISSING = 2;

    private static PicturePegs withSheets(int n) {
        PicturePegs x = new PicturePegs();
        for (int sort = 0; sort < 4; sort++) {
            x.sheet(sort, sort, n);
        }
        return x;
    }

    // ---- promise 37 ----

    static void promise37_noSuchSheetIsBad(Due due) {
        for (int sheet : outside(0, 3)) {
            refused(due, "minds(" + sheet + ", 0, 0, 1)", BAD, x -> x.minds(sheet, 0, 0, 1));
        }
    }

    static void promise37_noSuchOneIsBad(Due due) {
        for (int person : outside(0, 4)) {
            refused(due, "minds(0, 0, " + person + ", 1)", BAD, x -> x.minds(0, 0, person, 1));
            refused(due, "minds(0, 0, " + person + ", 0)", BAD, x -> x.minds(0, 0, person, 0));
        }
    }

    static void promise37_nBelow0OrAbove8IsBad(Due due) {
        for (int n : outside(0, 8)) {
            refused(due, "minds(0, 0, 0, " + n + ")", BAD, x -> x.minds(0, 0, 0, n));
            refusedOfEight(due, "minds(0, 0, 0, " + n + ")", BAD, x -> x.minds(0, 0, 0, n));
        }
    }

    static void promise37_beyondTheLastOneIsBad(Due due) {
        refused(due, "minds(0, 0, 4, 2)", BAD, x -> x.minds(0, 0, 4, 2));
        refused(due, "minds(0, 0, 3, 3)", BAD, x -> x.minds(0, 0, 3, 3));
        refused(due, "minds(0, 0, 0, 6)", BAD, x -> x.minds(0, 0, 0, 6));
        refusedOfEight(due, "minds(0, 0, 7, 2)", BAD, x -> x.minds(0, 0, 7, 2));
        refusedOfEight(due, "minds(0, 0, 1, 8)", BAD, x -> x.minds(0, 0, 1, 8));
    }

    static void promise37_missingSheet(Due due) {
        refused(due, "minds(2, 0, 0, 1)", -11, x -> x.minds(MISSING, 0, 0, 1));
        refused(due, "minds(2, 0, 0, 0)", -11, x -> x.minds(MISSING, 0, 0, 0));
        refused(due, "minds(2, -1, 0, 1)", -11, x -> x.minds(MISSING, -1, 0, 1));
    }

    static void promise37_anotherSort(Due due) {
        refused(due, "minds(1, 0, 0, 1)", -13, x -> x.minds(1, 0, 0, 1));
        refused(due, "minds(3, 0, 0, 0)", -13, x -> x.minds(3, 0, 0, 0));
        PicturePegs x = withSheets(3);
        x.person(PUPIL, DUCK, 7, 0);
        for (int sheet = 1; sheet < 4; sheet++) {
            due.is("minds(" + sheet + ", 0, 0, 1)", x.minds(sheet, 0, 0, 1), -13);
        }
        due.is("of(0, 2)", x.of(0, 2), 7);
    }

    static void promise37_iOutside(Due due) {
        for (int i : outside(0, 3)) {
            refused(due, "minds(0, " + i + ", 0, 1)", -12, x -> x.minds(0, i, 0, 1));
        }
    }

    static void promise37_iOutsideAlsoForNone(Due due) {
        for (int i : outside(0, 3)) {
            refused(due, "minds(0, " + i + ", 0, 0)", -12, x -> x.minds(0, i, 0, 0));
        }
    }

    static void promise37_notSoManyItems(Due due) {
        refused(due, "minds(0, 3, 0, 1)", -12, x -> x.minds(0, 3, 0, 1));
        refused(due, "minds(0, 2, 0, 2)", -12, x -> x.minds(0, 2, 0, 2));
        refused(due, "minds(0, 0, 0, 4)", -12, x -> x.minds(0, 0, 0, 4));
        refused(due, "minds(0, max, 0, 5)", -12, x -> x.minds(0, Integer.MAX_VALUE, 0, 5));
    }

    static void promise37_noneFromTheEndOn(Due due) {
        refused(due, "minds(0, 3, 0, 0)", 0, x -> x.minds(0, 3, 0, 0));
        refused(due, "minds(0, 0, 4, 0)", 0, x -> x.minds(0, 0, 4, 0));
        PicturePegs x = withSheets(0);
        x.person(PUPIL, DUCK, 7, 0);
        due.is("of an empty row", x.minds(0, 0, 0, 0), 0);
        due.is("of an empty row, i 1", x.minds(0, 1, 0, 0), -12);
        due.is("of an empty row, n 1", x.minds(0, 0, 0, 1), -12);
    }

    static void promise37_ofSeveralTheFirstNamed(Due due) {
        refused(due, "BAD before -11", BAD, x -> x.minds(MISSING, -1, 5, 1));
        refused(due, "BAD before -13", BAD, x -> x.minds(1, -1, 4, 2));
        refused(due, "BAD before -12", BAD, x -> x.minds(0, -1, 0, 9));
        refused(due, "-13 before -12", -13, x -> x.minds(1, -1, 0, 1));
    }

    static void promise37_eightFromTheFirstOn(Due due) {
        PicturePegs x = crowd(8, PUPIL, DUCK, 0);
        x.sheet(0, 0, 8);
        for (int i = 0; i < 8; i++) {
            x.put(0, i, 20 + i);
        }
        due.is("minds(0, 0, 0, 8)", x.minds(0, 0, 0, 8), 8);
        for (int i = 0; i < 8; i++) {
            due.is("of(" + i + ", 2)", x.of(i, 2), 20 + i);
        }
    }

    static void promise37_theLastItemForTheLastOne(Due due) {
        PicturePegs x = crowd(8, PUPIL, DUCK, 0);
        x.sheet(3, 0, 40);
        x.put(3, 39, 77);
        due.is("minds(3, 39, 7, 1)", x.minds(3, 39, 7, 1), 1);
        due.is("of(7, 2)", x.of(7, 2), 77);
        due.is("of(6, 2)", x.of(6, 2), 0);
    }

    static void promise37_heldTo0To99(Due due) {
        PicturePegs x = crowd(1, PUPIL, DUCK, 0);
        x.sheet(0, 0, 1);
        int[][] ages = {{-128, 0}, {-1, 0}, {0, 0}, {1, 1}, {98, 98}, {99, 99}, {100, 99}, {127, 99}};
        for (int[] age : ages) {
            x.put(0, 0, age[0]);
            due.is("minds of " + age[0], x.minds(0, 0, 0, 1), 1);
            due.is("of(0, 2)", x.of(0, 2), age[1]);
        }
        x.put(0, 0, 128);
        x.minds(0, 0, 0, 1);
        due.is("128, narrowed to -128", x.of(0, 2), 0);
    }

    static void promise37_theSheetStays(Due due) {
        PicturePegs x = crowd(1, PUPIL, DUCK, 0);
        x.sheet(0, 0, 1);
        x.put(0, 0, 120);
        x.minds(0, 0, 0, 1);
        due.is("item(0, 0, 0)", x.item(0, 0, 0), 120);
    }

    // ---- promise 38 ----

    static void promise38_noSuchSheetIsBad(Due due) {
        for (int sheet : outside(0, 3)) {
            refused(due, "sheet(" + sheet + ", 0, 1)", BAD, x -> x.sheet(sheet, 0, 1));
            refused(due, "sheet(" + sheet + ", -1, 1)", BAD, x -> x.sheet(sheet, -1, 1));
        }
    }

    static void promise38_noSuchSortIsBad(Due due) {
        for (int sort : outside(-1, 3)) {
            refused(due, "sheet(0, " + sort + ", 1)", BAD, x -> x.sheet(0, sort, 1));
        }
    }

    static void promise38_nAbove40IsBad(Due due) {
        for (int n : tooLarge(40)) {
            for (int sort = 0; sort < 4; sort++) {
                int asked = sort;
                refused(due, "sheet(0, " + sort + ", " + n + ")", BAD, x -> x.sheet(0, asked, n));
            }
        }
    }

    static void promise38_aSizeBelow0(Due due) {
        for (int n : tooSmall(0)) {
            for (int sort = 0; sort < 4; sort++) {
                int asked = sort;
                refused(due, "sheet(0, " + sort + ", " + n + ")", -14, x -> x.sheet(0, asked, n));
            }
        }
    }

    static void promise38_ofSeveralTheFirstNamed(Due due) {
        refused(due, "no such sheet, below 0", BAD, x -> x.sheet(4, 0, -1));
        refused(due, "no such sheet, below 0", BAD, x -> x.sheet(-1, 0, -1));
        refused(due, "no such sort, below 0", BAD, x -> x.sheet(0, 4, -1));
        refused(due, "no such sort, below 0", BAD, x -> x.sheet(0, -2, -1));
    }

    static void promise38_aRowOfNone(Due due) {
        PicturePegs x = withSheets(0);
        for (int sort = 0; sort < 4; sort++) {
            due.is("item(" + sort + ", " + sort + ", 0)", x.item(sort, sort, 0), -12);
            due.is("put(" + sort + ", 0, 1)", x.put(sort, 0, 1), -12);
        }
    }

    static void promise38_aRowOfForty(Due due) {
        PicturePegs x = new PicturePegs();
        for (int sort = 0; sort < 4; sort++) {
            due.is("sheet(" + sort + ", " + sort + ", 40)", x.sheet(sort, sort, 40), 1);
            for (int i = 0; i < 40; i++) {
                due.is("item", x.item(sort, sort, i), 0);
            }
            due.is("item 40", x.item(sort, sort, 40), -12);
            due.is("put", x.put(sort, 39, 5), 1);
            due.is("item 39", x.item(sort, sort, 39), 5);
        }
    }

    static void promise38_allIs0Anew(Due due) {
        PicturePegs x = new PicturePegs();
        x.sheet(0, 2, 40);
        for (int i = 0; i < 40; i++) {
            x.put(0, i, -1);
        }
        x.sheet(0, 2, 3);
        due.is("sheet(0, 2, 40)", x.sheet(0, 2, 40), 1);
        for (int i = 0; i < 40; i++) {
            due.is("item(0, 2, " + i + ")", x.item(0, 2, i), 0);
        }
    }

    static void promise38_missingWhateverN(Due due) {
        int[] sizes = {0, 1, 40, 41, -1, Integer.MIN_VALUE, Integer.MAX_VALUE};
        for (int n : sizes) {
            PicturePegs x = withSheets(3);
            due.is("sheet(1, -1, " + n + ")", x.sheet(1, -1, n), 1);
            due.is("item(1, 1, 0)", x.item(1, 1, 0), -11);
            due.is("missing already", x.sheet(1, -1, n), 1);
            due.is("item(0, 0, 0)", x.item(0, 0, 0), 0);
        }
    }

    static void promise38_missingIsAllGone(Due due) {
        PicturePegs x = withSheets(3);
        x.put(2, 1, 9);
        x.sheet(2, -1, 0);
        x.sheet(2, 2, 3);
        due.is("item(2, 2, 1)", x.item(2, 2, 1), 0);
    }

    // ---- promise 39 ----

    static void promise39_noSuchSheetIsBad(Due due) {
        for (int sheet : outside(0, 3)) {
            refused(due, "put(" + sheet + ", 0, 7)", BAD, x -> x.put(sheet, 0, 7));
        }
    }

    static void promise39_missingSheet(Due due) {
        refused(due, "put(2, 0, 7)", -11, x -> x.put(MISSING, 0, 7));
        refused(due, "put(2, -1, 7)", -11, x -> x.put(MISSING, -1, 7));
        refused(due, "put(2, 40, 7)", -11, x -> x.put(MISSING, 40, 7));
    }

    static void promise39_iOutside(Due due) {
        for (int i : outside(0, 2)) {
            refused(due, "put(0, " + i + ", 7)", -12, x -> x.put(0, i, 7));
        }
        for (int i : outside(0, 0)) {
            refused(due, "put(3, " + i + ", 7)", -12, x -> x.put(3, i, 7));
        }
    }

    static void promise39_firstAndLastItem(Due due) {
        PicturePegs x = withSheets(40);
        for (int sort = 0; sort < 4; sort++) {
            due.is("put(" + sort + ", 0, 7)", x.put(sort, 0, 7), 1);
            due.is("put(" + sort + ", 39, 8)", x.put(sort, 39, 8), 1);
            due.is("item 0", x.item(sort, sort, 0), 7);
            due.is("item 1", x.item(sort, sort, 1), 0);
            due.is("item 38", x.item(sort, sort, 38), 0);
            due.is("item 39", x.item(sort, sort, 39), 8);
        }
    }

    static void promise39_narrowedToBytes(Due due) {
        PicturePegs x = withSheets(1);
        int[][] values = {{127, 127}, {128, -128}, {255, -1}, {256, 0}, {-128, -128}, {-129, 127},
            {Integer.MAX_VALUE, -1}, {Integer.MIN_VALUE, 0}};
        for (int[] v : values) {
            due.is("put(0, 0, " + v[0] + ")", x.put(0, 0, v[0]), 1);
            due.is("item(0, 0, 0)", x.item(0, 0, 0), v[1]);
        }
    }

    static void promise39_narrowedToShorts(Due due) {
        PicturePegs x = withSheets(1);
        int[][] values = {{32767, 32767}, {32768, -32768}, {65535, -1}, {65536, 0}, {-32768, -32768},
            {-32769, 32767}, {Integer.MAX_VALUE, -1}, {Integer.MIN_VALUE, 0}, {128, 128}};
        for (int[] v : values) {
            due.is("put(1, 0, " + v[0] + ")", x.put(1, 0, v[0]), 1);
            due.is("item(1, 1, 0)", x.item(1, 1, 0), v[1]);
        }
    }

    static void promise39_notNarrowedToIntsAndLongs(Due due) {
        PicturePegs x = withSheets(1);
        int[] values = {65536, -65537, Integer.MAX_VALUE, Integer.MIN_VALUE, -1, 0};
        for (int v : values) {
            for (int sort = 2; sort < 4; sort++) {
                due.is("put(" + sort + ", 0, " + v + ")", x.put(sort, 0, v), 1);
                due.is("item(" + sort + ", " + sort + ", 0)", x.item(sort, sort, 0), v);
            }
        }
    }

    // ---- promise 40 ----

    static void promise40_noSuchSheetIsBad(Due due) {
        for (int sheet : outside(0, 3)) {
            refused(due, "item(" + sheet + ", 0, 0)", BAD, x -> x.item(sheet, 0, 0));
        }
    }

    static void promise40_noSuchSortIsBad(Due due) {
        for (int sort : outside(0, 3)) {
            refused(due, "item(0, " + sort + ", 0)", BAD, x -> x.item(0, sort, 0));
            refused(due, "item(2, " + sort + ", 0), missing", BAD, x -> x.item(MISSING, sort, 0));
        }
    }

    static void promise40_missingSheet(Due due) {
        for (int sort = 0; sort < 4; sort++) {
            int asked = sort;
            refused(due, "item(2, " + sort + ", 0)", -11, x -> x.item(MISSING, asked, 0));
            refused(due, "item(2, " + sort + ", -1)", -11, x -> x.item(MISSING, asked, -1));
        }
    }

    static void promise40_anotherSort(Due due) {
        PicturePegs x = withSheets(3);
        for (int sheet = 0; sheet < 4; sheet++) {
            for (int sort = 0; sort < 4; sort++) {
                due.is("item(" + sheet + ", " + sort + ", 0)", x.item(sheet, sort, 0),
                        sort == sheet ? 0 : -13);
                due.is("item(" + sheet + ", " + sort + ", 3)", x.item(sheet, sort, 3),
                        sort == sheet ? -12 : -13);
                due.is("item(" + sheet + ", " + sort + ", -1)", x.item(sheet, sort, -1),
                        sort == sheet ? -12 : -13);
            }
        }
    }

    static void promise40_iOutside(Due due) {
        for (int i : outside(0, 2)) {
            refused(due, "item(0, 0, " + i + ")", -12, x -> x.item(0, 0, i));
        }
        for (int i : outside(0, 1)) {
            refused(due, "item(1, 1, " + i + ")", -12, x -> x.item(1, 1, i));
        }
    }

    static void promise40_outsideOfAShorterRowThanBefore(Due due) {
        PicturePegs x = withSheets(40);
        x.put(0, 39, 7);
        x.sheet(0, 0, 39);
        due.is("item(0, 0, 39)", x.item(0, 0, 39), -12);
        due.is("item(0, 0, 38)", x.item(0, 0, 38), 0);
    }

    static void promise40_anItemMayBeAsLowAsRefusals(Due due) {
        PicturePegs x = withSheets(1);
        int[] low = {-1, -2, -3, -11, -12, -13, -14, -15};
        for (int v : low) {
            for (int sort = 0; sort < 4; sort++) {
                x.put(sort, 0, v);
                due.is("item(" + sort + ", " + sort + ", 0)", x.item(sort, sort, 0), v);
            }
        }
    }

    static void promise40_ofLongsTheLowest32Bits(Due due) {
        PicturePegs x = withSheets(1);
        x.put(3, 0, Integer.MIN_VALUE);
        due.is("item(3, 3, 0)", x.item(3, 3, 0), Integer.MIN_VALUE);
        x.put(3, 0, -1);
        due.is("item(3, 3, 0)", x.item(3, 3, 0), -1);
    }
}
