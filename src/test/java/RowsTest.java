/** Promises 33 to 36: rows of hours, and the reader. */
final class RowsTest {
    private static final Due DUE = new Due("RowsTest");
    private static final int BAD = PicturePegs.BAD;

    public static void main(String[] args) {
        proves();
        reader();
        readerFromNow();
        DUE.end();
    }

    private static void proves() {
        PicturePegs x = new PicturePegs();
        x.person(2, 0, 0, 10);
        x.person(2, 0, 0, 10);
        x.set(0, 1);
        x.set(2, 0);
        DUE.is("33 prove(0, 3)", x.prove(0, 3), 3);
        // burglars stride 2 and lean -1, but 2 at the bell
        int[][] due = {{0, 2, -1}, {2, 2, 2}, {4, 2, -1}};
        for (int i = 0; i < 3; i++) {
            for (int what = 0; what < 3; what++) {
                DUE.is("34 row(" + i + ", " + what + ")", x.row(i, what), due[i][what]);
            }
        }
        DUE.is("34 row(3, 0)", x.row(3, 0), -999);
        DUE.is("34 row(-1, 0)", x.row(-1, 0), -999);
        DUE.is("34 row(0, 3)", x.row(0, 3), -999);
        DUE.is("34 row(0, -1)", x.row(0, -1), -999);
        DUE.is("33 nothing changes", x.state(0), 0);
        DUE.is("33 nothing changes", x.of(0, 4), 0);
        DUE.is("33 n 0", x.prove(0, 0), BAD);
        DUE.is("33 n 11", x.prove(0, 11), BAD);
        DUE.is("33 no such one", x.prove(2, 3), BAD);
        DUE.is("33 no such one", x.prove(-1, 3), BAD);
        DUE.is("33 rows stay", x.many(4), 3);
        DUE.is("33 prove(0, 10)", x.prove(0, 10), 10);
        DUE.is("33 many(4)", x.many(4), 10);
        DUE.is("33 prove(0, 1)", x.prove(0, 1), 1);
        DUE.is("34 the others are gone", x.row(1, 0), -999);
    }

    private static void reader() {
        PicturePegs x = new PicturePegs();
        DUE.is("36 no such one, no rows", x.judge(0), BAD);
        x.person(1, 0, 0, 0);
        x.person(5, 0, 0, 2);
        DUE.is("36 there are none", x.judge(0), 0);
        x.prove(0, 10);
        DUE.is("36 all is right", x.judge(0), 0);
        DUE.is("36 another's", x.judge(1), 1);
        DUE.is("36 no such one", x.judge(2), BAD);
        DUE.is("36 no such one", x.judge(-1), BAD);
        for (int i = 9; i >= 0; i--) {
            for (int what = 0; what < 3; what++) {
                int was = x.row(i, what);
                DUE.is("35 alterRow", x.alterRow(i, what, -5), was);
                DUE.is("34 row", x.row(i, what), -5);
                DUE.is("36 the first that isn't", x.judge(0), i + 1);
                DUE.is("35 alterRow back", x.alterRow(i, what, was), -5);
                DUE.is("36 all is right", x.judge(0), 0);
            }
        }
        DUE.is("35 any number", x.alterRow(7, 0, Integer.MIN_VALUE), 4);
        x.alterRow(3, 2, 77);
        DUE.is("36 the first of two", x.judge(0), 4);
        DUE.is("35 alterRow(10, 0, 1)", x.alterRow(10, 0, 1), -999);
        DUE.is("35 alterRow(-1, 0, 1)", x.alterRow(-1, 0, 1), -999);
        DUE.is("35 alterRow(0, 3, 1)", x.alterRow(0, 3, 1), -999);
        DUE.is("35 alterRow(0, -1, 1)", x.alterRow(0, -1, 1), -999);
    }

    private static void readerFromNow() {
        PicturePegs x = new PicturePegs();
        x.person(5, 0, 0, 0);
        x.prove(0, 10);
        x.hours(5);
        DUE.is("36 a twin goes on as it did", x.judge(0), 0);
        x.mind(0, 0, 0);
        DUE.is("36 a pupil doesn't", x.judge(0), 1);
        PicturePegs y = new PicturePegs();
        y.person(5, 0, 0, 0);
        y.person(5, 0, 0, 0);
        y.prove(0, 2);
        y.know(0, 1, 1);
        DUE.is("36 it knows sooner or later", y.judge(0), 0);
        y.person(5, 3, 0, 0);
        y.know(0, 2, 1);
        DUE.is("36 it knows one more", y.judge(0), 1);
    }
}
