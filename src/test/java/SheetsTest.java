/** Promises 37 to 40: sheets. */
final class SheetsTest {
    private static final Due DUE = new Due("SheetsTest");
    private static final int BAD = PicturePegs.BAD;

    public static void main(String[] args) {
        sheets();
        items();
        agesFromSheets();
        DUE.end();
    }

    private static void sheets() {
        PicturePegs x = new PicturePegs();
        DUE.is("38 no such sheet", x.sheet(4, 0, 1), BAD);
        DUE.is("38 no such sheet, size below 0", x.sheet(-1, 0, -1), BAD);
        DUE.is("38 no such sort", x.sheet(0, 4, 1), BAD);
        DUE.is("38 no such sort, size below 0", x.sheet(0, -2, -1), BAD);
        DUE.is("38 n 41", x.sheet(0, 0, 41), BAD);
        DUE.is("38 n -1", x.sheet(0, 0, -1), -14);
        DUE.is("38 n least", x.sheet(0, 3, Integer.MIN_VALUE), -14);
        DUE.is("38 still missing", x.put(0, 0, 1), -11);
        DUE.is("38 sheet(0, 2, 40)", x.sheet(0, 2, 40), 1);
        DUE.is("39 put(0, 39, 5)", x.put(0, 39, 5), 1);
        DUE.is("40 item(0, 2, 39)", x.item(0, 2, 39), 5);
        DUE.is("40 item(0, 2, 0)", x.item(0, 2, 0), 0);
        DUE.is("38 a refused call", x.sheet(0, 0, 41), BAD);
        DUE.is("38 a refused call", x.sheet(0, 0, -1), -14);
        DUE.is("40 stays", x.item(0, 2, 39), 5);
        x.put(0, 0, 7);
        DUE.is("38 anew", x.sheet(0, 2, 40), 1);
        DUE.is("40 all 0", x.item(0, 2, 0), 0);
        DUE.is("40 all 0", x.item(0, 2, 39), 0);
        DUE.is("38 of none", x.sheet(0, 1, 0), 1);
        DUE.is("40 of none", x.item(0, 1, 0), -12);
        DUE.is("38 missing", x.sheet(0, -1, 41), 1);
        DUE.is("40 missing", x.item(0, 1, 0), -11);
        DUE.is("38 missing again", x.sheet(0, -1, -41), 1);
    }

    private static void items() {
        PicturePegs x = new PicturePegs();
        int[] values = {0, 1, -1, 127, 128, 255, 256, 32767, 32768, 65535, 65536,
            Integer.MAX_VALUE, Integer.MIN_VALUE, -129, -32769};
        for (int sort = 0; sort < 4; sort++) {
            x.sheet(sort, sort, values.length);
            for (int i = 0; i < values.length; i++) {
                int v = values[i];
                DUE.is("39 put", x.put(sort, i, v), 1);
                int due = sort == 0 ? (byte) v : sort == 1 ? (short) v : v;
                DUE.is("40 item of sort " + sort, x.item(sort, sort, i), due);
            }
            for (int other = 0; other < 4; other++) {
                if (other != sort) {
                    DUE.is("40 another sort", x.item(sort, other, 0), -13);
                    DUE.is("40 another sort, outside", x.item(sort, other, 99), -13);
                }
            }
            DUE.is("40 outside", x.item(sort, sort, values.length), -12);
            DUE.is("40 outside", x.item(sort, sort, -1), -12);
            DUE.is("39 outside", x.put(sort, values.length, 1), -12);
            DUE.is("39 outside", x.put(sort, -1, 1), -12);
        }
        DUE.is("40 no such sort", x.item(0, 4, 0), BAD);
        DUE.is("40 no such sort", x.item(0, -1, 0), BAD);
        DUE.is("40 no such sheet", x.item(4, 0, 0), BAD);
        DUE.is("40 no such sheet", x.item(-1, 0, 0), BAD);
        DUE.is("39 no such sheet", x.put(4, 0, 0), BAD);
        DUE.is("39 no such sheet", x.put(-1, 0, 0), BAD);
        x.sheet(2, -1, 0);
        DUE.is("40 missing before sort", x.item(2, 0, 99), -11);
        DUE.is("40 no such sort before missing", x.item(2, 4, 99), BAD);
        DUE.is("39 missing before outside", x.put(2, 99, 0), -11);
    }

    private static void agesFromSheets() {
        PicturePegs x = new PicturePegs();
        x.sheet(0, 0, 8);
        DUE.is("37 nobody", x.minds(0, 0, 0, 0), BAD);
        for (int i = 0; i < 8; i++) {
            x.person(0, 0, 50, 0);
        }
        int[] put = {99, 100, 127, 128, -1, 0, 1, 7};
        int[] due = {99, 99, 99, 0, 0, 0, 1, 7};
        for (int i = 0; i < 8; i++) {
            x.put(0, i, put[i]);
        }
        DUE.is("37 two of them", x.minds(0, 6, 3, 2), 2);
        int[] two = {50, 50, 50, 1, 7, 50, 50, 50};
        for (int i = 0; i < 8; i++) {
            DUE.is("37 of(" + i + ", 2)", x.of(i, 2), two[i]);
        }
        DUE.is("37 all of them", x.minds(0, 0, 0, 8), 8);
        for (int i = 0; i < 8; i++) {
            DUE.is("37 of(" + i + ", 2)", x.of(i, 2), due[i]);
        }
        x.sheet(1, 1, 8);
        DUE.is("37 n 9", x.minds(0, 0, 0, 9), BAD);
        DUE.is("37 n -1", x.minds(0, 0, 0, -1), BAD);
        DUE.is("37 beyond the last one", x.minds(2, 0, 1, 8), BAD);
        DUE.is("37 just the last one", x.minds(0, 0, 7, 1), 1);
        DUE.is("37 no such one", x.minds(0, 0, 8, 0), BAD);
        DUE.is("37 no such one", x.minds(0, 0, -1, 0), BAD);
        DUE.is("37 no such sheet", x.minds(4, 0, 0, 1), BAD);
        DUE.is("37 no such sheet", x.minds(-1, 0, 0, 1), BAD);
        DUE.is("37 missing", x.minds(2, -1, 0, 1), -11);
        DUE.is("37 shorts", x.minds(1, -1, 0, 1), -13);
        DUE.is("37 i below 0", x.minds(0, -1, 0, 1), -12);
        DUE.is("37 i below 0, n 0", x.minds(0, -1, 0, 0), -12);
        DUE.is("37 i at the end, n 0", x.minds(0, 8, 0, 0), 0);
        DUE.is("37 i behind the end, n 0", x.minds(0, 9, 0, 0), -12);
        DUE.is("37 i most", x.minds(0, Integer.MAX_VALUE, 0, 8), -12);
        DUE.is("37 not so many", x.minds(0, 7, 0, 2), -12);
        DUE.is("37 nothing changed", x.of(0, 2), 99);
    }
}
