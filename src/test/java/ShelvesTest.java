/** Promises 41 to 47: shelves, acts, the trace, how many, schools kept. */
final class ShelvesTest {
    private static final Due DUE = new Due("ShelvesTest");
    private static final int BAD = PicturePegs.BAD, NONE = PicturePegs.NONE;

    public static void main(String[] args) {
        shelves();
        takenKinds();
        bodies();
        partedByZero();
        refusedActs();
        many();
        kept();
        DUE.end();
    }

    private static void shelves() {
        PicturePegs x = new PicturePegs();
        DUE.is("41 nobody", x.shelf(0, 0, 0), BAD);
        x.person(0, 0, 0, 0);
        DUE.is("41 no such shelf", x.shelf(4, 0, 0), BAD);
        DUE.is("41 no such shelf", x.shelf(-1, 2, 0), BAD);
        DUE.is("41 no such what", x.shelf(0, 3, 0), BAD);
        DUE.is("41 no such what", x.shelf(0, -1, 0), BAD);
        DUE.is("41 no such one", x.shelf(0, 0, 1), BAD);
        DUE.is("41 no such one", x.shelf(0, 0, -1), BAD);
        DUE.is("41 no such sheet", x.shelf(0, 1, 4), BAD);
        DUE.is("41 no such sheet", x.shelf(0, 1, -1), BAD);
        DUE.is("42 nothing", x.taken(0, 0), -11);
        DUE.is("41 one", x.shelf(0, 0, 0), 1);
        DUE.is("42 one", x.taken(0, 0), 0);
        DUE.is("41 a missing row", x.shelf(0, 1, 3), 1);
        DUE.is("42 is nothing", x.taken(0, 0), -11);
        DUE.is("42 is nothing", x.taken(0, 13), -11);
        for (int sort = 0; sort < 4; sort++) {
            x.sheet(sort, sort, 10 * sort);
            DUE.is("41 a row", x.shelf(sort, 1, sort), 1);
            for (int as = 10; as < 14; as++) {
                DUE.is("42 a row", x.taken(sort, as), as == 10 + sort ? 10 * sort : -13);
            }
            for (int as = 0; as < 6; as++) {
                DUE.is("42 a row as a kind", x.taken(sort, as), -13);
            }
        }
        x.sheet(3, 0, 7);
        DUE.is("42 the row that the sheet had", x.taken(3, 13), 30);
        x.sheet(2, -1, 0);
        DUE.is("42 the row that the sheet had", x.taken(2, 12), 20);
        DUE.is("41 nothing", x.shelf(3, 2, -77), 1);
        DUE.is("42 nothing", x.taken(3, 13), -11);
        int[] wrong = {-1, 6, 9, 14, Integer.MIN_VALUE, Integer.MAX_VALUE};
        for (int as : wrong) {
            DUE.is("42 no such as", x.taken(3, as), BAD);
        }
        DUE.is("42 no such shelf", x.taken(4, 0), BAD);
        DUE.is("42 no such shelf", x.taken(-1, 0), BAD);
    }

    private static void takenKinds() {
        PicturePegs x = new PicturePegs();
        x.person(0, 0, 0, 0);
        x.person(0, 0, 0, 0);
        x.shelf(2, 0, 1);
        // for each kind those that it may be taken for
        int[] sets = {1, 3, 5, 11, 21, 33};
        for (int kind = 0; kind < 6; kind++) {
            x.mind(1, kind, 0);
            for (int as = 0; as < 6; as++) {
                int due = (sets[kind] >> as & 1) == 1 ? 1 : -13;
                DUE.is("42 kind " + kind + " as " + as, x.taken(2, as), due);
            }
            DUE.is("42 as a row", x.taken(2, 10), -13);
            DUE.is("42 as a row", x.taken(2, 13), -13);
        }
        x.keep();
        Due.school(x, "dean at 3;");
        DUE.is("42 no such one at the time", x.taken(2, 0), -11);
        DUE.is("43 no such one at the time", x.act(2, 0, 5), 0);
        x.person(2, 0, 0, 0);
        DUE.is("42 there is one again", x.taken(2, 2), 1);
    }

    private static void bodiesOf(int kind, int act, long answer, int... trace) {
        PicturePegs x = new PicturePegs();
        for (int i = 0; i < 3; i++) {
            x.person(kind, 4, 0, 0);
        }
        x.shelf(1, 0, 2);
        DUE.is("43 kind " + kind + " act " + act, x.act(1, act, 9), answer);
        DUE.is("45 many(6)", x.many(6), trace.length);
        for (int i = 0; i < trace.length; i++) {
            DUE.is("44 kind " + kind + " act " + act + " trace(" + i + ")", x.trace(i), trace[i]);
        }
        DUE.is("44 no more", x.trace(trace.length), NONE);
        DUE.is("44 below 0", x.trace(-1), NONE);
    }

    // n is 2, a is 4, x is 9
    private static void bodies() {
        bodiesOf(0, 0, 61, 10);
        bodiesOf(0, 1, 65, 11, 10);
        bodiesOf(0, 2, 4, 12);
        bodiesOf(0, 3, 65 ^ 50, 13, 11, 10);
        bodiesOf(1, 0, 61, 10);
        bodiesOf(1, 1, 62, 20, 11, 10);
        bodiesOf(1, 2, 4, 12);
        bodiesOf(1, 3, 62 ^ 50, 13, 20, 11, 10);
        bodiesOf(2, 0, -61, 30, 10);
        bodiesOf(2, 1, -57, 11, 30, 10);
        bodiesOf(2, 2, 4, 12);
        bodiesOf(2, 3, (-57 ^ 50) - 1, 31, 13, 11, 30, 10, 12);
        bodiesOf(3, 0, 62, 51, 10);
        bodiesOf(3, 1, 63, 20, 11, 51, 10);
        bodiesOf(3, 2, 9, 50, 12);
        bodiesOf(3, 3, 63 ^ 50, 13, 20, 11, 51, 10);
        int hooks9 = -61 ^ 8;
        int hooks4 = -26 ^ 8;
        int leans9 = hooks9 + 4 + hooks4;
        bodiesOf(4, 0, hooks9, 40, 30, 10);
        bodiesOf(4, 1, leans9, 41, 11, 40, 30, 10, 40, 30, 10);
        bodiesOf(4, 2, 4, 12);
        bodiesOf(4, 3, (leans9 ^ 50) - 1, 31, 13, 41, 11, 40, 30, 10, 40, 30, 10, 12);
        bodiesOf(5, 0, 61, 10);
        bodiesOf(5, 1, 65, 11, 10);
        bodiesOf(5, 2, 4 - 12, 61, 12, 10);
        bodiesOf(5, 3, (65 ^ 50) * 2, 60, 13, 11, 10);
        PicturePegs x = new PicturePegs();
        x.person(0, 1, 0, 0);
        x.person(0, 0, 0, 0);
        x.shelf(0, 0, 0);
        x.shelf(1, 0, 1);
        DUE.is("43 wraps", x.act(0, 0, Integer.MAX_VALUE), Integer.MAX_VALUE * 7);
        DUE.is("43 by -1", x.act(1, 2, Integer.MIN_VALUE), Integer.MIN_VALUE);
        DUE.is("43 cut", x.act(0, 2, -7), -7);
        x.mind(0, 0, 2);
        DUE.is("43 cut towards 0", x.act(0, 2, -7), -3);
        DUE.is("43 the peg as it is now", x.act(0, 1, 0), 2);
        x.mind(0, 4, 2);
        DUE.is("43 a cracker's hooks, 28 ^ 8", x.act(0, 0, -4), 20);
    }

    private static void partedByZero() {
        int[][] due = {
            {0, 2, 12}, {1, 2, 12}, {2, 2, 12}, {4, 2, 12}, {3, 2, 50, 12}, {5, 2, 61, 12},
            {2, 3, 31, 13, 11, 30, 10, 12},
            {4, 3, 31, 13, 41, 11, 40, 30, 10, 40, 30, 10, 12},
        };
        for (int[] d : due) {
            PicturePegs x = new PicturePegs();
            x.person(d[0], 0, 0, 0);
            x.shelf(3, 0, 0);
            DUE.is("43 parted by 0", x.act(3, d[1], 6), -15);
            DUE.is("45 many(6)", x.many(6), d.length - 2);
            for (int i = 2; i < d.length; i++) {
                DUE.is("44 trace", x.trace(i - 2), d[i]);
            }
            DUE.is("43 then another act", x.act(3, 0, 0) == -15 ? 1 : 0, 0);
            DUE.holds("44 then another trace", x.many(6) > 0);
        }
    }

    private static void refusedActs() {
        int[][] wrong = {{4, 0}, {-1, 0}, {0, 4}, {0, -1}, {1, 0}, {2, 0}};
        for (int[] w : wrong) {
            PicturePegs x = new PicturePegs();
            x.person(0, 3, 0, 0);
            x.sheet(0, 0, 3);
            x.shelf(0, 0, 0);
            x.shelf(2, 1, 0);
            x.act(0, 1, 5);
            DUE.is("44 before", x.many(6), 2);
            DUE.is("43 act(" + w[0] + ", " + w[1] + ", 5)", x.act(w[0], w[1], 5), 0);
            DUE.is("43 no trace", x.many(6), 0);
            DUE.is("44 no trace", x.trace(0), NONE);
        }
    }

    private static void many() {
        PicturePegs x = new PicturePegs();
        x.person(0, 2, 0, 3);
        x.person(0, 5, 0, 3);
        x.person(0, 2, 0, 4);
        x.person(0, 2, 0, 5);
        x.know(1, 3, 1);
        x.feed(0, 5);
        x.prove(0, 7);
        x.shelf(0, 0, 0);
        x.act(0, 3, 0);
        int[] due = {4, 2, 2, 3, 7, 5, 3};
        for (int what = 0; what < due.length; what++) {
            DUE.is("45 many(" + what + ")", x.many(what), due[what]);
        }
        x.mind(0, 0, 0);
        DUE.is("45 one more peg", x.many(2), 3);
        DUE.is("45 many(7)", x.many(7), BAD);
        DUE.is("45 many(-1)", x.many(-1), BAD);
    }

    private static void kept() {
        PicturePegs x = new PicturePegs();
        DUE.is("47 nothing is kept", x.again(), NONE);
        Due.school(x, "twin at 3; twin at 3; dean at 4 age 7 had pear; bell 2; pear weighs 5;");
        x.hours(3);
        x.seed(99);
        x.sheet(0, 2, 4);
        x.shelf(0, 1, 0);
        x.prove(0, 3);
        x.feed(0x3bL, 1);
        x.shelf(1, 0, 2);
        x.act(1, 0, 1);
        DUE.is("46 keep()", x.keep(), 1);
        changeAll(x);
        for (int turn = 0; turn < 2; turn++) {
            DUE.is("47 again()", x.again(), 3);
            DUE.is("47 lawOf(0)", x.lawOf(0), 2);
            DUE.is("47 peg(2, 0)", x.peg(2, 0), 5);
            DUE.is("47 state(0)", x.state(0), 3);
            DUE.is("47 of(0, 4)", x.of(0, 4), 2);
            DUE.is("47 of(2, 0)", x.of(2, 0), 3);
            DUE.is("47 of(2, 1)", x.of(2, 1), 2);
            DUE.is("47 of(2, 2)", x.of(2, 2), 7);
            DUE.is("47 of(2, 3)", x.of(2, 3), 1);
            DUE.is("47 z", x.seed(1), 99);
            DUE.is("47 not the sheets", x.item(0, 0, 0), 6);
            DUE.is("47 not the shelves", x.taken(0, 0), 0);
            DUE.is("47 not the rows", x.many(4), 1);
            DUE.is("47 not the tape", x.many(5), 2);
            DUE.is("47 not the trace", x.many(6), 2);
            x.know(0, 1, 0);
            x.mind(0, 2, 1);
            x.hours(2);
            x.set(0, 7);
        }
        x.keep();
        x.set(0, 9);
        DUE.is("47 the latest", x.again(), 3);
        DUE.is("47 the latest", x.lawOf(0), 7);
    }

    private static void changeAll(PicturePegs x) {
        x.set(0, 8);
        x.weigh(2, 50);
        x.know(0, 1, 0);
        x.mind(2, 0, 0);
        x.age(2, 50);
        x.bring(2, 9);
        x.person(1, 1, 1, 1);
        x.hours(10);
        x.seed(5);
        x.sheet(0, 0, 1);
        x.put(0, 0, 6);
        x.shelf(0, 0, 0);
        x.prove(0, 1);
        x.feed(0x3bL, 1);
        x.shelf(1, 0, 1);
        x.act(1, 1, 1);
    }
}
