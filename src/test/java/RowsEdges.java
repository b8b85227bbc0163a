/** Boundary cases of promises 33 to 36: rows of hours, and the reader. */
final class RowsEdges extends Edge {
    private static final int NO_ROW = -999;

    private static PicturePegs pupilWithRows(int n) {
        PicturePegs x = new PicturePegs();
        x.person(PUPIL, DUCK, 0, 0);
        x.prove(0, n);
        return x;
    }

    // ---- promise 33 ----

    static void promise33_noSuchOneIsBad(Due due) {
        for (int person : outside(0, 4)) {
            refused(due, "prove(" + person + ", 3)", BAD, x -> x.prove(person, 3));
        }
    }

    static void promise33_nTooSmallIsBad(Due due) {
        for (int n : tooSmall(1)) {
            refused(due, "prove(0, " + n + ")", BAD, x -> x.prove(0, n));
        }
    }

    static void promise33_nTooLargeIsBad(Due due) {
        for (int n : tooLarge(10)) {
            refused(due, "prove(0, " + n + ")", BAD, x -> x.prove(0, n));
        }
    }

    static void promise33_oneRowAndTen(Due due) {
        PicturePegs x = pupilWithRows(10);
        due.is("many(4)", x.many(4), 10);
        due.is("prove(0, 1)", x.prove(0, 1), 1);
        due.is("many(4)", x.many(4), 1);
        due.is("prove(0, 10)", x.prove(0, 10), 10);
        due.is("row(9, 0)", x.row(9, 0), 10);
    }

    static void promise33_fewerRowsInPlaceOfMore(Due due) {
        PicturePegs x = pupilWithRows(10);
        x.prove(0, 2);
        due.is("row(1, 0)", x.row(1, 0), 2);
        due.is("row(2, 0)", x.row(2, 0), NO_ROW);
        due.is("row(9, 0)", x.row(9, 0), NO_ROW);
    }

    static void promise33_nothingElseChanges(Due due) {
        PicturePegs x = Whole.rich("");
        due.is("prove(2, 4)", x.prove(2, 4), 4);
        unchanged(due, "prove(2, 4) once more", x, Whole.rich(""));
        changesNothing(due, "prove(0, 10), prove(2, 4)", y -> y.prove(0, 10) + y.prove(2, 4));
    }

    // ---- promise 34 ----

    static void promise34_noRowsAtFirst(Due due) {
        PicturePegs x = new PicturePegs();
        for (int what = 0; what < 3; what++) {
            due.is("row(0, " + what + ")", x.row(0, what), NO_ROW);
        }
    }

    static void promise34_noSuchRow(Due due) {
        for (int i : outside(0, 3)) {
            refused(due, "row(" + i + ", 0)", NO_ROW, x -> x.row(i, 0));
            refused(due, "row(" + i + ", 2)", NO_ROW, x -> x.row(i, 2));
        }
    }

    static void promise34_anotherWhat(Due due) {
        for (int what : outside(0, 2)) {
            refused(due, "row(0, " + what + ")", NO_ROW, x -> x.row(0, what));
            refused(due, "row(3, " + what + ")", NO_ROW, x -> x.row(3, what));
        }
    }

    static void promise34_firstAndLastOfTen(Due due) {
        PicturePegs x = new PicturePegs();
        x.person(PUPIL, DUCK, 0, 2);
        x.set(BELL, 9);
        x.prove(0, 10);
        due.is("row(0, 0)", x.row(0, 0), 3);
        due.is("row(0, 2)", x.row(0, 2), 0);
        due.is("row(9, 0), round", x.row(9, 0), 0);
        due.is("row(9, 2), at the bell", x.row(9, 2), 3);
        due.is("row(10, 0)", x.row(10, 0), NO_ROW);
    }

    static void promise34_leantInThatHour(Due due) {
        PicturePegs x = new PicturePegs();
        x.person(PUPIL, DUCK, 0, 2);
        x.set(BELL, 0);
        x.hours(9);
        x.prove(0, 3);
        due.is("row(0, 2), in hour 9", x.row(0, 2), 0);
        due.is("row(1, 2), in hour 10", x.row(1, 2), 3);
        due.is("row(2, 2), in hour 11", x.row(2, 2), 0);
    }

    static void promise34_knowsNobodyAndAll(Due due) {
        PicturePegs x = crowd(8, PUPIL, DUCK, 0);
        x.set(BELL, 1);
        x.prove(7, 2);
        due.is("row(0, 1)", x.row(0, 1), 0);
        due.is("row(1, 1)", x.row(1, 1), 127);
    }

    static void promise34_leantBelow0IsNoRefusal(Due due) {
        PicturePegs x = new PicturePegs();
        x.person(BURGLAR, DUCK, 0, 0);
        x.prove(0, 1);
        due.is("row(0, 2)", x.row(0, 2), -1);
    }

    // ---- promise 35 ----

    static void promise35_noRowsAtFirst(Due due) {
        due.is("alterRow(0, 0, 1)", new PicturePegs().alterRow(0, 0, 1), NO_ROW);
    }

    static void promise35_noSuchRow(Due due) {
        for (int i : outside(0, 3)) {
            refused(due, "alterRow(" + i + ", 0, 7)", NO_ROW, x -> x.alterRow(i, 0, 7));
            refused(due, "alterRow(" + i + ", 2, 7)", NO_ROW, x -> x.alterRow(i, 2, 7));
        }
    }

    static void promise35_anotherWhat(Due due) {
        for (int what : outside(0, 2)) {
            refused(due, "alterRow(0, " + what + ", 7)", NO_ROW, x -> x.alterRow(0, what, 7));
            refused(due, "alterRow(3, " + what + ", 7)", NO_ROW, x -> x.alterRow(3, what, 7));
        }
    }

    static void promise35_noRowBehindFewerOnes(Due due) {
        PicturePegs x = pupilWithRows(10);
        x.prove(0, 3);
        due.is("alterRow(3, 0, 7)", x.alterRow(3, 0, 7), NO_ROW);
        due.is("alterRow(2, 0, 7)", x.alterRow(2, 0, 7), 3);
    }

    static void promise35_anyNumberOfAnInt(Due due) {
        PicturePegs x = pupilWithRows(10);
        int[] values = {Integer.MIN_VALUE, Integer.MAX_VALUE, NO_ROW, BAD, 0};
        for (int what = 0; what < 3; what++) {
            int was = x.row(9, what);
            for (int v : values) {
                due.is("alterRow(9, " + what + ", " + v + ")", x.alterRow(9, what, v), was);
                due.is("row(9, " + what + ")", x.row(9, what), v);
                was = v;
            }
        }
    }

    static void promise35_oneNumberAlone(Due due) {
        PicturePegs x = pupilWithRows(3);
        x.alterRow(1, 1, 77);
        int[][] rows = {{1, 0, 0}, {2, 77, 0}, {3, 0, 0}};
        for (int i = 0; i < 3; i++) {
            for (int what = 0; what < 3; what++) {
                due.is("row(" + i + ", " + what + ")", x.row(i, what), rows[i][what]);
            }
        }
    }

    // ---- promise 36 ----

    static void promise36_noSuchOneIsBad(Due due) {
        for (int person : outside(0, 4)) {
            refused(due, "judge(" + person + ")", BAD, x -> x.judge(person));
        }
        due.is("nobody, no rows", new PicturePegs().judge(0), BAD);
    }

    static void promise36_rightIfThereAreNone(Due due) {
        PicturePegs x = crowd(8, PUPIL, DUCK, 0);
        due.is("judge(0)", x.judge(0), 0);
        due.is("judge(7)", x.judge(7), 0);
    }

    static void promise36_allIsRight(Due due) {
        for (int n = 1; n <= 10; n++) {
            due.is("judge(0) of " + n, pupilWithRows(n).judge(0), 0);
        }
    }

    static void promise36_firstRowAndTheTenth(Due due) {
        for (int i = 0; i < 10; i++) {
            for (int what = 0; what < 3; what++) {
                PicturePegs x = pupilWithRows(10);
                x.alterRow(i, what, x.row(i, what) + 1);
                due.is("judge(0), row " + i + ", what " + what, x.judge(0), i + 1);
            }
        }
    }

    static void promise36_theFirstOfSeveral(Due due) {
        PicturePegs x = pupilWithRows(10);
        x.alterRow(9, 0, 7);
        x.alterRow(4, 2, 7);
        x.alterRow(6, 1, 7);
        due.is("judge(0)", x.judge(0), 5);
    }

    static void promise36_whatIsNoPlaceOrNobodyIsNotRight(Due due) {
        PicturePegs x = pupilWithRows(10);
        due.is("place 12 for 0", x.alterRow(9, 0, 22), 10);
        due.is("judge(0)", x.judge(0), 10);
        x.alterRow(9, 0, 10);
        x.alterRow(0, 1, 256);
        due.is("judge(0)", x.judge(0), 1);
        x.alterRow(0, 1, 0);
        due.is("judge(0)", x.judge(0), 0);
    }

    static void promise36_fromHowItIsNow(Due due) {
        PicturePegs x = pupilWithRows(10);
        x.hours(1);
        due.is("an hour later", x.judge(0), 1);
        x.hours(59);
        due.is("sixty hours later", x.judge(0), 0);
    }

    static void promise36_nothingChanges(Due due) {
        changesNothing(due, "judge(2)", x -> x.judge(2));
        changesNothing(due, "judge(0)", x -> x.judge(0));
    }
}
