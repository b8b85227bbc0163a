/** Boundary cases of promises 41 to 47: shelves, acts, the trace, how many, schools kept. */
final class ShelvesEdges extends Edge {
    private static final int HOOKS = 0, LEANS = 1, PARTS = 2, CALLS = 3;
    // Whole.rich() has a twin, number 4, of the blank one, on shelf 0, shorts on 1, bytes on 3.
    private static final int EMPTY_SHELF = 2;

    // Shelf 0 holds a person of that kind, peg and number.
    private static PicturePegs held(int kind, int peg, int number) {
        PicturePegs x = crowd(number, TWIN, DUCK, 0);
        x.person(kind, peg, 0, 0);
        x.shelf(0, 0, number);
        return x;
    }

    private static void traced(Due due, PicturePegs x, int... bodies) {
        due.is("many(6)", x.many(6), bodies.length);
        for (int i = 0; i < bodies.length; i++) {
            due.is("trace(" + i + ")", x.trace(i), bodies[i]);
        }
        due.is("trace(" + bodies.length + ")", x.trace(bodies.length), NONE);
    }

    // ---- promise 41 ----

    static void promise41_noSuchShelfIsBad(Due due) {
        for (int shelf : outside(0, 3)) {
            for (int what = 0; what < 3; what++) {
                int asked = what;
                refused(due, "shelf(" + shelf + ", " + what + ", 0)", BAD, x -> x.shelf(shelf, asked, 0));
            }
        }
    }

    static void promise41_noSuchWhatIsBad(Due due) {
        for (int what : outside(0, 2)) {
            refused(due, "shelf(0, " + what + ", 0)", BAD, x -> x.shelf(0, what, 0));
        }
    }

    static void promise41_noSuchOneIsBad(Due due) {
        for (int person : outside(0, 4)) {
            refused(due, "shelf(0, 0, " + person + ")", BAD, x -> x.shelf(0, 0, person));
        }
        due.is("nobody is there", new PicturePegs().shelf(0, 0, 0), BAD);
    }

    static void promise41_noSuchSheetIsBad(Due due) {
        for (int sheet : outside(0, 3)) {
            refused(due, "shelf(0, 1, " + sheet + ")", BAD, x -> x.shelf(0, 1, sheet));
        }
    }

    static void promise41_firstAndLastShelfAndOne(Due due) {
        PicturePegs x = crowd(8, TWIN, DUCK, 0);
        for (int shelf = 0; shelf < 4; shelf++) {
            due.is("shelf(" + shelf + ", 0, 7)", x.shelf(shelf, 0, 7), 1);
            due.is("taken(" + shelf + ", 5)", x.taken(shelf, TWIN), 7);
            due.is("shelf(" + shelf + ", 0, 0)", x.shelf(shelf, 0, 0), 1);
            due.is("taken(" + shelf + ", 5)", x.taken(shelf, TWIN), 0);
        }
    }

    static void promise41_nothingIfTheSheetIsMissing(Due due) {
        PicturePegs x = held(TWIN, DUCK, 0);
        for (int sheet = 0; sheet < 4; sheet++) {
            x.shelf(0, 0, 0);
            due.is("shelf(0, 1, " + sheet + ")", x.shelf(0, 1, sheet), 1);
            due.is("taken(0, 0)", x.taken(0, 0), -11);
            due.is("taken(0, 10)", x.taken(0, 10), -11);
            x.sheet(sheet, 0, 5);
            due.is("taken(0, 10), it has a row since", x.taken(0, 10), -11);
        }
    }

    static void promise41_nothingWhateverN(Due due) {
        int[] numbers = {0, -1, 4, 8, Integer.MIN_VALUE, Integer.MAX_VALUE};
        for (int n : numbers) {
            PicturePegs x = held(TWIN, DUCK, 0);
            due.is("shelf(0, 2, " + n + ")", x.shelf(0, 2, n), 1);
            due.is("taken(0, 0)", x.taken(0, 0), -11);
        }
    }

    static void promise41_aRowOfNone(Due due) {
        PicturePegs x = new PicturePegs();
        x.sheet(3, 3, 0);
        due.is("shelf(3, 1, 3)", x.shelf(3, 1, 3), 1);
        due.is("taken(3, 13)", x.taken(3, 13), 0);
    }

    // ---- promise 42 ----

    static void promise42_noSuchShelfIsBad(Due due) {
        for (int shelf : outside(0, 3)) {
            refused(due, "taken(" + shelf + ", 0)", BAD, x -> x.taken(shelf, 0));
            refused(due, "taken(" + shelf + ", 10)", BAD, x -> x.taken(shelf, 10));
        }
    }

    static void promise42_noSuchAsIsBad(Due due) {
        int[] wrong = {-1, 6, 7, 8, 9, 14, -10, 256, Integer.MIN_VALUE, Integer.MAX_VALUE};
        for (int as : wrong) {
            for (int shelf = 0; shelf < 4; shelf++) {
                int asked = shelf;
                refused(due, "taken(" + shelf + ", " + as + ")", BAD, x -> x.taken(asked, as));
            }
        }
    }

    static void promise42_nothingThere(Due due) {
        for (int as = 0; as < 6; as++) {
            int kind = as;
            refused(due, "taken(2, " + as + ")", -11, x -> x.taken(EMPTY_SHELF, kind));
        }
        for (int as = 10; as < 14; as++) {
            int row = as;
            refused(due, "taken(2, " + as + ")", -11, x -> x.taken(EMPTY_SHELF, row));
        }
    }

    static void promise42_nothingIfNoSuchOneAtTheTime(Due due) {
        PicturePegs x = held(TWIN, DUCK, 7);
        due.is("school()", Due.school(x, "twin at 0;twin at 0;twin at 0;twin at 0;twin at 0;twin at 0;"
                + "twin at 0;"), 7);
        due.is("taken(0, 5)", x.taken(0, TWIN), -11);
        due.is("taken(0, 10)", x.taken(0, 10), -11);
        due.is("the eighth", x.person(DEAN, DUCK, 0, 0), 7);
        due.is("taken(0, 5)", x.taken(0, TWIN), -13);
        due.is("taken(0, 1)", x.taken(0, BISHOP), 7);
    }

    static void promise42_nothingIfNoSuchOneIsKept(Due due) {
        PicturePegs x = crowd(1, TWIN, DUCK, 0);
        x.keep();
        x.person(TWIN, DUCK, 0, 0);
        x.shelf(3, 0, 1);
        x.again();
        due.is("taken(3, 5)", x.taken(3, TWIN), -11);
        due.is("act(3, 0, 5)", x.act(3, HOOKS, 5), 0);
    }

    static void promise42_aKindOrOneUnderIt(Due due) {
        String[] may = {"0", "01", "02", "013", "024", "05"};
        for (int kind = 0; kind < 6; kind++) {
            PicturePegs x = held(kind, DUCK, 3);
            for (int as = 0; as < 6; as++) {
                boolean under = may[kind].indexOf('0' + as) >= 0;
                due.is("kind " + kind + ", taken(0, " + as + ")", x.taken(0, as), under ? 3 : -13);
            }
        }
    }

    static void promise42_onePersonTakenForARow(Due due) {
        for (int as = 10; as < 14; as++) {
            int row = as;
            refused(due, "taken(0, " + as + ")", -13, x -> x.taken(0, row));
        }
    }

    static void promise42_aRowTakenForAKind(Due due) {
        for (int as = 0; as < 6; as++) {
            int kind = as;
            refused(due, "taken(1, " + as + ")", -13, x -> x.taken(1, kind));
            refused(due, "taken(3, " + as + ")", -13, x -> x.taken(3, kind));
        }
    }

    static void promise42_aRowOfEachSortAndSize(Due due) {
        int[] sizes = {0, 1, 40};
        for (int n : sizes) {
            PicturePegs x = new PicturePegs();
            for (int sort = 0; sort < 4; sort++) {
                x.sheet(3 - sort, sort, n);
                x.shelf(sort, 1, 3 - sort);
                for (int as = 10; as < 14; as++) {
                    due.is("taken(" + sort + ", " + as + ")", x.taken(sort, as),
                            as == 10 + sort ? n : -13);
                }
            }
        }
    }

    static void promise42_theRowStaysWhenTheSheetIsAnew(Due due) {
        PicturePegs x = new PicturePegs();
        x.sheet(0, 1, 40);
        x.shelf(0, 1, 0);
        x.sheet(0, 2, 3);
        due.is("taken(0, 11)", x.taken(0, 11), 40);
        x.sheet(0, -1, 0);
        due.is("taken(0, 11)", x.taken(0, 11), 40);
        due.is("taken(0, 12)", x.taken(0, 12), -13);
    }

    // ---- promise 43 ----

    private static void noAct(Due due, String call, PicturePegs x, int shelf, int act) {
        due.holds("there was a trace", x.many(6) > 0);
        due.is(call, x.act(shelf, act, 9), 0);
        traced(due, x);
    }

    static void promise43_noSuchShelf(Due due) {
        for (int shelf : outside(0, 3)) {
            noAct(due, "act(" + shelf + ", 0, 9)", Whole.rich(""), shelf, HOOKS);
        }
    }

    static void promise43_noSuchAct(Due due) {
        for (int act : outside(0, 3)) {
            noAct(due, "act(0, " + act + ", 9)", Whole.rich(""), 0, act);
        }
    }

    static void promise43_nothingOnTheShelf(Due due) {
        for (int act = 0; act < 4; act++) {
            noAct(due, "act(2, " + act + ", 9)", Whole.rich(""), EMPTY_SHELF, act);
        }
        PicturePegs x = held(PUPIL, DRUM, 0);
        x.act(0, LEANS, 9);
        Due.school(x, "bell 3;");
        noAct(due, "act(0, 0, 9), no such one at the time", x, 0, HOOKS);
    }

    static void promise43_aRowOnTheShelf(Due due) {
        for (int act = 0; act < 4; act++) {
            noAct(due, "act(1, " + act + ", 9)", Whole.rich(""), 1, act);
            noAct(due, "act(3, " + act + ", 9)", Whole.rich(""), 3, act);
        }
    }

    static void promise43_refusedActsChangeTheTraceAlone(Due due) {
        PicturePegs x = Whole.rich("");
        PicturePegs y = Whole.rich("");
        x.act(4, HOOKS, 9);
        y.act(EMPTY_SHELF, PARTS, -9);
        unchanged(due, "act", x, y);
    }

    static void promise43_hooksWrap(Due due) {
        PicturePegs x = held(PUPIL, DRUM, 7);
        due.is("max * 7 - 7", x.act(0, HOOKS, Integer.MAX_VALUE), 2147483634);
        due.is("min * 7 - 7", x.act(0, HOOKS, Integer.MIN_VALUE), 2147483641);
        PicturePegs y = held(BURGLAR, DRUM, 0);
        due.is("0 - min * 7", y.act(0, HOOKS, Integer.MIN_VALUE), Integer.MIN_VALUE);
    }

    static void promise43_leansWrap(Due due) {
        // 306783379 * 7 is 2147483653, that is -2147483643, less 7 is 2147483646; and 5 wraps once more
        PicturePegs x = held(PUPIL, BLANK, 7);
        due.is("hooks", x.act(0, HOOKS, 306783379), 2147483646);
        due.is("leans", x.act(0, LEANS, 306783379), -2147483645);
    }

    static void promise43_partsWrap(Due due) {
        PicturePegs x = held(PUPIL, DUCK, 1);
        due.is("min by -1", x.act(0, PARTS, Integer.MIN_VALUE), Integer.MIN_VALUE);
        due.is("max by -1", x.act(0, PARTS, Integer.MAX_VALUE), -Integer.MAX_VALUE);
        PicturePegs y = held(DEAN, PEAR, 1);
        due.is("(min - 1) * 3", y.act(0, PARTS, Integer.MIN_VALUE), 2147483645);
    }

    static void promise43_callsWrap(Due due) {
        // 306783378 * 7 is 2147483646; ^ 50 is 2147483596; twice that is -104
        PicturePegs x = held(TWIN, DUCK, 0);
        due.is("calls", x.act(0, CALLS, 306783378), -104);
    }

    static void promise43_cutTowards0(Due due) {
        PicturePegs x = held(PUPIL, PEAR, 0);
        int[][] by2 = {{7, 3}, {-7, -3}, {1, 0}, {-1, 0}, {0, 0}};
        for (int[] d : by2) {
            due.is(d[0] + " by 2", x.act(0, PARTS, d[0]), d[1]);
        }
        PicturePegs y = held(PUPIL, DUCK, 2);
        for (int[] d : by2) {
            due.is(d[0] + " by -2", y.act(0, PARTS, d[0]), -d[1]);
        }
        PicturePegs z = held(PUPIL, DUCK, 7);
        due.is("6 by -7", z.act(0, PARTS, 6), 0);
        due.is("-14 by -7", z.act(0, PARTS, -14), 2);
    }

    static void promise43_partedBy0(Due due) {
        int[] numbers = {Integer.MIN_VALUE, -1, 0, 1, Integer.MAX_VALUE};
        for (int kind = 0; kind < 6; kind++) {
            for (int same = 0; same <= 5; same++) {
                PicturePegs x = held(kind, same, same);
                for (int v : numbers) {
                    due.is("kind " + kind + ", act(0, 2, " + v + ")", x.act(0, PARTS, v), -15);
                }
            }
        }
    }

    static void promise43_callsThatPartBy0(Due due) {
        for (int same = 0; same <= 5; same++) {
            due.is("a burglar", held(BURGLAR, same, same).act(0, CALLS, 3), -15);
            due.is("a cracker", held(CRACKER, same, same).act(0, CALLS, 3), -15);
        }
        // who doesn't part in calls: (3 * 7 + 0 - ..) ^ 50
        due.is("a pupil", held(PUPIL, DUCK, 0).act(0, CALLS, 3), 21 ^ 50);
        due.is("a bishop", held(BISHOP, DUCK, 0).act(0, CALLS, 3), 18 ^ 50);
        due.is("a dean", held(DEAN, DUCK, 0).act(0, CALLS, 3), 19 ^ 50);
        due.is("a twin", held(TWIN, DUCK, 0).act(0, CALLS, 3), (21 ^ 50) * 2);
    }

    static void promise43_partedBy0ChangesTheTraceAlone(Due due) {
        PicturePegs x = Whole.rich("");
        x.mind(4, TWIN, LADDER);
        PicturePegs y = Whole.rich("");
        y.mind(4, TWIN, LADDER);
        due.is("act(0, 2, 9)", x.act(0, PARTS, 9), -15);
        traced(due, x, 61, 12);
        x.act(EMPTY_SHELF, 0, 0);
        y.act(EMPTY_SHELF, 0, 0);
        unchanged(due, "act(0, 2, 9)", x, y);
    }

    static void promise43_answersAsLowAsRefusals(Due due) {
        PicturePegs x = held(PUPIL, DRUM, 1);
        due.is("hooks: -2 * 7 - 1", x.act(0, HOOKS, -2), -15);
        traced(due, x, 10);
        due.is("hooks: 0 * 7 - 1", x.act(0, HOOKS, 0), -1);
        traced(due, x, 10);
    }

    static void promise43_anAnswerOf0IsNoRefusal(Due due) {
        PicturePegs x = held(PUPIL, DRUM, 0);
        due.is("hooks", x.act(0, HOOKS, 0), 0);
        traced(due, x, 10);
    }

    // ---- promise 44 ----

    static void promise44_noneWithoutAnAct(Due due) {
        PicturePegs x = new PicturePegs();
        traced(due, x);
        due.is("trace(-1)", x.trace(-1), NONE);
    }

    static void promise44_iOutside(Due due) {
        for (int i : outside(0, 3)) {
            refused(due, "trace(" + i + ")", NONE, x -> x.trace(i));
        }
    }

    static void promise44_theLongestTrace(Due due) {
        PicturePegs x = held(CRACKER, DUCK, 3);
        x.act(0, CALLS, 1);
        traced(due, x, 31, 13, 41, 11, 40, 30, 10, 40, 30, 10, 12);
        for (int i : outside(0, 10)) {
            due.is("trace(" + i + ")", x.trace(i), NONE);
        }
    }

    static void promise44_ofTheLatestActAlone(Due due) {
        PicturePegs x = held(CRACKER, DUCK, 3);
        x.act(0, CALLS, 1);
        x.act(0, PARTS, 1);
        traced(due, x, 12);
    }

    static void promise44_bodiesBegunUntilPartedBy0(Due due) {
        PicturePegs pupil = held(PUPIL, DUCK, 0);
        pupil.act(0, PARTS, 1);
        traced(due, pupil, 12);
        PicturePegs twin = held(TWIN, DUCK, 0);
        twin.act(0, PARTS, 1);
        traced(due, twin, 61, 12);
        PicturePegs dean = held(DEAN, DUCK, 0);
        dean.act(0, PARTS, 1);
        traced(due, dean, 50, 12);
        PicturePegs burglar = held(BURGLAR, DUCK, 0);
        burglar.act(0, CALLS, 1);
        traced(due, burglar, 31, 13, 11, 30, 10, 12);
    }

    // ---- promise 45 ----

    static void promise45_anotherWhatIsBad(Due due) {
        for (int what : outside(0, 6)) {
            refused(due, "many(" + what + ")", BAD, x -> x.many(what));
        }
    }

    static void promise45_noneAtFirst(Due due) {
        PicturePegs x = new PicturePegs();
        for (int what = 0; what <= 6; what++) {
            due.is("many(" + what + ")", x.many(what), 0);
        }
    }

    static void promise45_asManyAsThereCanBe(Due due) {
        PicturePegs x = new PicturePegs();
        for (int i = 0; i < 8; i++) {
            x.person(CRACKER, i % 6, 0, i + 4);
        }
        for (int i = 0; i < 7; i++) {
            x.know(7, i, 1);
        }
        x.prove(0, 10);
        for (int i = 0; i < 25; i++) {
            x.feed(0, 8);
        }
        x.shelf(0, 0, 7);
        x.act(0, CALLS, 1);
        int[] most = {8, 8, 6, 8, 10, 200, 11};
        for (int what = 0; what <= 6; what++) {
            due.is("many(" + what + ")", x.many(what), most[what]);
        }
    }

    static void promise45_allOfOnePegAtOnePlace(Due due) {
        PicturePegs x = crowd(8, PUPIL, BLANK, 11);
        due.is("many(1)", x.many(1), 0);
        due.is("many(2)", x.many(2), 1);
        due.is("many(3)", x.many(3), 1);
        x.know(0, 7, 1);
        due.is("many(1)", x.many(1), 2);
        x.mind(0, PUPIL, DUCK);
        x.bring(0, 0);
        due.is("many(2), the first otherwise", x.many(2), 2);
        due.is("many(3), the first otherwise", x.many(3), 2);
        x.mind(0, PUPIL, BLANK);
        x.bring(0, 11);
        x.mind(7, PUPIL, LADDER);
        x.bring(7, 10);
        due.is("many(2), the last otherwise", x.many(2), 2);
        due.is("many(3), the last otherwise", x.many(3), 2);
    }

    // ---- promise 46 ----

    static void promise46_aSchoolOfNobody(Due due) {
        PicturePegs x = new PicturePegs();
        due.is("keep()", x.keep(), 1);
        x.person(PUPIL, DUCK, 0, 0);
        due.is("again()", x.again(), 0);
        due.is("many(0)", x.many(0), 0);
    }

    static void promise46_theLatestAlone(Due due) {
        PicturePegs x = crowd(3, PUPIL, DUCK, 0);
        x.keep();
        x.person(PUPIL, DUCK, 0, 0);
        due.is("keep() once more", x.keep(), 1);
        x.person(PUPIL, DUCK, 0, 0);
        due.is("again()", x.again(), 4);
        due.is("again() once more", x.again(), 4);
    }

    static void promise46_allButTheTapeAndRowsAndTheirLike(Due due) {
        PicturePegs x = Whole.rich("bell");
        x.keep();
        Due.feed(x, " 9;");
        x.alterRow(0, 0, 77);
        x.put(0, 1, 55);
        x.shelf(EMPTY_SHELF, 0, 3);
        x.act(0, HOOKS, 0);
        x.set(BELL, 1);
        x.hours(7);
        x.seed(4);
        due.is("again()", x.again(), 5);
        due.is("many(5)", x.many(5), 7);
        due.is("row(0, 0)", x.row(0, 0), 77);
        due.is("item(0, 0, 1)", x.item(0, 0, 1), 55);
        due.is("taken(2, 3)", x.taken(EMPTY_SHELF, DEAN), 3);
        traced(due, x, 10);
        due.is("BELL", x.lawOf(BELL), 6);
        due.is("HOUR", x.state(0), 5);
        due.is("z", x.seed(0), -12345);
        due.is("school()", x.school(), 0);
        due.is("BELL", x.lawOf(BELL), 9);
    }

    static void promise46_nothingElseChanges(Due due) {
        PicturePegs x = Whole.richKeepingNothing("bell 3;");
        due.is("keep()", x.keep(), 1);
        PicturePegs y = Whole.richKeepingNothing("bell 3;");
        due.is("keep()", y.keep(), 1);
        due.is("keep() once more", y.keep(), 1);
        due.is("many(4)", x.many(4), 4);
        due.is("many(5)", x.many(5), 7);
        due.is("many(6)", x.many(6), 4);
        unchanged(due, "keep()", x, y);
    }

    // ---- promise 47 ----

    static void promise47_noneIfNothingIsKept(Due due) {
        PicturePegs x = Whole.richKeepingNothing("bell 3;");
        due.is("again()", x.again(), NONE);
        unchanged(due, "again()", x, Whole.richKeepingNothing("bell 3;"));
    }

    static void promise47_noneBehindASchoolThatWasTold(Due due) {
        PicturePegs x = new PicturePegs();
        Due.school(x, "pupil at 1;");
        due.is("again()", x.again(), NONE);
        due.is("many(0)", x.many(0), 1);
    }

    static void promise47_whatIsKeptStays(Due due) {
        PicturePegs x = crowd(8, TWIN, DUCK, 11);
        x.keep();
        for (int turn = 0; turn < 3; turn++) {
            due.is("hours(1)", x.hours(1), 28);
            x.mind(0, DEAN, KITE);
            x.bring(7, 0);
            x.age(7, 99);
            x.weigh(DUCK, 0);
            x.set(CHANCE, 0);
            x.seed(99);
            due.is("school()", Due.school(x, "pupil at 1;"), 1);
            due.is("again()", x.again(), 8);
            due.is("state(0)", x.state(0), 0);
            due.is("state(1)", x.state(1), 0);
            due.is("of(0, 0)", x.of(0, 0), TWIN);
            due.is("of(0, 1)", x.of(0, 1), DUCK);
            due.is("of(7, 2)", x.of(7, 2), 0);
            due.is("of(7, 3)", x.of(7, 3), 11);
            due.is("peg(0, 0)", x.peg(DUCK, 0), 30);
            due.is("lawOf(3)", x.lawOf(CHANCE), 20);
            due.is("z", x.seed(1), 1);
        }
    }

    static void promise47_rowsStayForWhoeverIsThereThen(Due due) {
        PicturePegs x = crowd(1, PUPIL, DUCK, 0);
        x.keep();
        x.person(PUPIL, DUCK, 0, 5);
        x.prove(1, 10);
        due.is("again()", x.again(), 1);
        due.is("many(4)", x.many(4), 10);
        due.is("row(0, 0)", x.row(0, 0), 6);
        due.is("judge(1)", x.judge(1), BAD);
        due.is("judge(0)", x.judge(0), 1);
        x.bring(0, 5);
        due.is("judge(0)", x.judge(0), 0);
    }
}
