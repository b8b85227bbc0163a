import java.math.BigInteger;

/** Boundary cases of promises 21 to 32: what is tried, circles, what tells apart, fits, odds. */
final class TriedEdges extends Edge {
    // A twin at 0 and a pupil who comes there behind 12, 24, 36, 48 and 60 hours (from 1: one sooner).
    private static PicturePegs twinAndPupil(int pupilAt, int bell) {
        PicturePegs x = new PicturePegs();
        x.person(TWIN, DUCK, 0, 0);
        x.person(PUPIL, DUCK, 0, pupilAt);
        x.set(BELL, bell);
        return x;
    }

    private static PicturePegs twinsAt(int... places) {
        PicturePegs x = new PicturePegs();
        for (int place : places) {
            x.person(TWIN, DUCK, 0, place);
        }
        return x;
    }

    // ---- promise 21 ----

    static void promise21_noSuchOneIsBad(Due due) {
        for (int person : outside(0, 4)) {
            refused(due, "ahead(" + person + ", 0, 0)", BAD, x -> x.ahead(person, 0, 0));
            refused(due, "ahead(" + person + ", 1, 1)", BAD, x -> x.ahead(person, 1, 1));
        }
    }

    static void promise21_nBelow0OrAbove60IsBad(Due due) {
        for (int n : outside(0, 60)) {
            refused(due, "ahead(0, " + n + ", 0)", BAD, x -> x.ahead(0, n, 0));
            refused(due, "ahead(0, " + n + ", 1)", BAD, x -> x.ahead(0, n, 1));
        }
    }

    static void promise21_noSuchWhatIsBad(Due due) {
        for (int what : outside(0, 1)) {
            refused(due, "ahead(0, 1, " + what + ")", BAD, x -> x.ahead(0, 1, what));
        }
    }

    static void promise21_behindNoHours(Due due) {
        PicturePegs x = twinsAt(11, 11);
        due.is("ahead(0, 0, 0)", x.ahead(0, 0, 0), 11);
        due.is("ahead(0, 0, 1)", x.ahead(0, 0, 1), 0);
        due.is("ahead(0, 1, 1)", x.ahead(0, 1, 1), 2);
    }

    static void promise21_behindSixtyHours(Due due) {
        PicturePegs x = twinAndPupil(0, 9);
        due.is("ahead(0, 59, 1)", x.ahead(0, 59, 1), 0);
        due.is("ahead(0, 60, 1)", x.ahead(0, 60, 1), 2);
        due.is("ahead(1, 59, 0)", x.ahead(1, 59, 0), 11);
        due.is("ahead(1, 60, 0)", x.ahead(1, 60, 0), 0);
    }

    static void promise21_placesGoRound(Due due) {
        PicturePegs x = new PicturePegs();
        x.person(PUPIL, DUCK, 0, 11);
        x.person(DEAN, DUCK, 0, 0);
        due.is("a pupil from 11", x.ahead(0, 1, 0), 0);
        due.is("a dean from 0", x.ahead(1, 1, 0), 11);
    }

    static void promise21_nothingChanges(Due due) {
        changesNothing(due, "ahead(0, 60, 0)", x -> x.ahead(0, 60, 0));
        changesNothing(due, "ahead(4, 60, 1)", x -> x.ahead(4, 60, 1));
    }

    // ---- promise 22 ----

    static void promise22_noSuchOneIsBad(Due due) {
        for (int person : outside(0, 4)) {
            refused(due, "meet(" + person + ", 0)", BAD, x -> x.meet(person, 0));
            refused(due, "meet(0, " + person + ")", BAD, x -> x.meet(0, person));
        }
    }

    static void promise22_oneAndTheSameIsBad(Due due) {
        for (int person = 0; person < 5; person++) {
            int asked = person;
            refused(due, "meet(" + person + " twice)", BAD, x -> x.meet(asked, asked));
        }
    }

    static void promise22_behind0HoursIfTheyKnowEachOther(Due due) {
        PicturePegs x = twinsAt(3, 7);
        x.know(0, 1, 1);
        due.is("meet(0, 1)", x.meet(0, 1), 0);
        due.is("meet(1, 0)", x.meet(1, 0), 0);
    }

    static void promise22_behindOneHour(Due due) {
        due.is("meet(0, 1)", twinsAt(3, 3).meet(0, 1), 1);
    }

    static void promise22_behindSixtyHours(Due due) {
        due.is("the 59th", twinAndPupil(1, 8).meet(0, 1), 59);
        due.is("the 60th", twinAndPupil(0, 9).meet(0, 1), 60);
        due.is("the 60th, the other first", twinAndPupil(0, 9).meet(1, 0), 60);
    }

    static void promise22_noneIfNotByThen(Due due) {
        due.is("at an hour that is never the bell", twinAndPupil(0, 8).meet(0, 1), NONE);
        due.is("at two places for ever", twinsAt(3, 4).meet(0, 1), NONE);
        refused(due, "meet(1, 4), who leans by 0", NONE, x -> x.meet(1, 4));
    }

    static void promise22_nothingChanges(Due due) {
        for (int other = 1; other < 5; other++) {
            int asked = other;
            changesNothing(due, "meet(0, " + other + ")", x -> x.meet(0, asked));
        }
    }

    // ---- promise 23 ----

    static void promise23_nobodyIsThere(Due due) {
        due.is("gather()", new PicturePegs().gather(), 0);
    }

    static void promise23_oneAloneAndAllAtOnePlaceNow(Due due) {
        due.is("one", twinsAt(7).gather(), 0);
        due.is("eight", crowd(8, PUPIL, DUCK, 11).gather(), 0);
    }

    static void promise23_theLatestThatCanBe(Due due) {
        due.is("a pupil one past a twin", twinAndPupil(1, 4).gather(), 11);
        due.is("a pupil just before a twin", twinAndPupil(11, 4).gather(), 1);
        PicturePegs x = crowd(8, TWIN, DUCK, 0);
        x.mind(7, DEAN, DUCK);
        x.bring(7, 11);
        due.is("a dean of eight, going back", x.gather(), 11);
    }

    static void promise23_noneIfNotByThen(Due due) {
        due.is("two twins", twinsAt(0, 11).gather(), NONE);
        PicturePegs x = crowd(8, TWIN, DUCK, 0);
        x.bring(7, 1);
        due.is("all but the last", x.gather(), NONE);
        x.bring(7, 0);
        x.bring(0, 1);
        due.is("all but the first", x.gather(), NONE);
        refused(due, "gather()", NONE, PicturePegs::gather);
    }

    static void promise23_nothingChanges(Due due) {
        changesNothing(due, "gather()", PicturePegs::gather);
    }

    // ---- promise 24 ----

    static void promise24_noSuchOneIsBad(Due due) {
        for (int person : outside(0, 4)) {
            refused(due, "alone(" + person + ")", BAD, x -> x.alone(person));
        }
    }

    static void promise24_aloneNow(Due due) {
        due.is("nobody else", twinsAt(3).alone(0), 0);
        due.is("nobody else at its place", twinsAt(3, 4, 4).alone(0), 0);
    }

    // One pupil leaves a twin's place and the next comes, until behind seven hours none does.
    static void promise24_behindTheFewestHours(Due due) {
        PicturePegs x = twinsAt(0);
        for (int i = 0; i < 7; i++) {
            due.is("alone(0)", x.alone(0), i);
            x.person(PUPIL, DUCK, 0, (12 - i) % 12);
        }
        due.is("alone(0)", x.alone(0), 7);
    }

    static void promise24_noneIfNotByThen(Due due) {
        due.is("two twins", twinsAt(3, 3).alone(0), NONE);
        due.is("two twins, the last", twinsAt(3, 3).alone(1), NONE);
        due.is("two pupils", crowd(2, PUPIL, DUCK, 11).alone(1), NONE);
    }

    static void promise24_nothingChanges(Due due) {
        for (int person = 0; person < 5; person++) {
            int asked = person;
            changesNothing(due, "alone(" + person + ")", x -> x.alone(asked));
        }
    }

    // ---- promise 25 ----

    static void promise25_noSuchOneIsBad(Due due) {
        for (int person : outside(0, 4)) {
            refused(due, "pegFor(" + person + ", 1)", BAD, x -> x.pegFor(person, 1));
        }
    }

    static void promise25_nTooSmallOrTooLargeIsBad(Due due) {
        for (int n : outside(1, 20)) {
            refused(due, "pegFor(0, " + n + ")", BAD, x -> x.pegFor(0, n));
        }
    }

    static void promise25_oneHourAndTwenty(Due due) {
        PicturePegs x = twinsAt(3, 3);
        x.mind(1, TWIN, LADDER);
        due.is("pegFor(0, 1)", x.pegFor(0, 1), LADDER);
        PicturePegs y = twinAndPupil(4, 9);
        y.mind(1, PUPIL, DRUM);
        due.is("pegFor(0, 19)", y.pegFor(0, 19), DUCK);
        due.is("pegFor(0, 20)", y.pegFor(0, 20), DRUM);
    }

    static void promise25_ofSeveralTheLeast(Due due) {
        due.is("none knows anybody", twinsAt(3).pegFor(0, 20), DUCK);
        PicturePegs x = twinsAt(3, 3, 3, 3);
        x.mind(0, TWIN, BLANK);
        x.mind(1, TWIN, LADDER);
        x.mind(2, TWIN, KITE);
        x.mind(3, TWIN, BLANK);
        due.is("the kite and the ladder", x.pegFor(0, 1), KITE);
        x.weigh(BLANK, 30);
        due.is("the blank one", x.pegFor(0, 1), BLANK);
        x.mind(2, TWIN, LADDER);
        due.is("the ladder and the blank one", x.pegFor(0, 1), LADDER);
    }

    static void promise25_thoseItKnowsNowCountOfEachPeg(Due due) {
        PicturePegs x = twinsAt(3, 3);
        x.mind(1, TWIN, LADDER);
        x.know(0, 1, 1);
        due.is("pegFor(0, 1)", x.pegFor(0, 1), DUCK);
    }

    static void promise25_nothingChanges(Due due) {
        changesNothing(due, "pegFor(0, 20)", x -> x.pegFor(0, 20));
        changesNothing(due, "pegFor(4, 1)", x -> x.pegFor(4, 1));
    }

    // ---- promise 26 ----

    static void promise26_noSuchOneIsBad(Due due) {
        for (int person : outside(0, 4)) {
            refused(due, "kindFor(" + person + ", 1)", BAD, x -> x.kindFor(person, 1));
        }
    }

    static void promise26_nTooSmallOrTooLargeIsBad(Due due) {
        for (int n : outside(1, 20)) {
            refused(due, "kindFor(0, " + n + ")", BAD, x -> x.kindFor(0, n));
        }
    }

    // A blank twin of weight 80 leans by 8, as a dean of the duck does at the bell, and no other.
    static void promise26_oneHourAndTwenty(Due due) {
        PicturePegs x = new PicturePegs();
        x.person(TWIN, BLANK, 0, 0);
        x.person(PUPIL, DUCK, 0, 8);
        x.weigh(BLANK, 80);
        x.set(ROOM, 0);
        x.set(BELL, 9);
        due.is("kindFor(1, 19)", x.kindFor(1, 19), PUPIL);
        due.is("kindFor(1, 20)", x.kindFor(1, 20), DEAN);
        x.set(BELL, 0);
        x.bring(1, 1);
        due.is("kindFor(1, 1)", x.kindFor(1, 1), DEAN);
    }

    static void promise26_ofSeveralTheLeast(Due due) {
        due.is("none knows anybody", twinsAt(3).kindFor(0, 20), PUPIL);
        PicturePegs x = new PicturePegs();
        x.person(TWIN, DUCK, 0, 4);
        x.person(PUPIL, DUCK, 40, 0);
        due.is("a cracker, a bishop not yet", x.kindFor(1, 1), CRACKER);
        due.is("a bishop and a cracker", x.kindFor(1, 2), BISHOP);
        x.set(ROOM, 0);
        due.is("a cracker, by as much alone", x.kindFor(1, 2), CRACKER);
        due.is("the last of the kinds", twinsAt(3, 3).kindFor(0, 1), TWIN);
    }

    static void promise26_nothingChanges(Due due) {
        changesNothing(due, "kindFor(0, 20)", x -> x.kindFor(0, 20));
        changesNothing(due, "kindFor(4, 1)", x -> x.kindFor(4, 1));
    }

    // ---- promise 27 ----

    static void promise27_noSuchOneIsBad(Due due) {
        for (int person : outside(0, 4)) {
            refused(due, "placeFor(" + person + ", 1)", BAD, x -> x.placeFor(person, 1));
        }
    }

    static void promise27_nTooSmallOrTooLargeIsBad(Due due) {
        for (int n : outside(1, 20)) {
            refused(due, "placeFor(0, " + n + ")", BAD, x -> x.placeFor(0, n));
        }
    }

    // A pupil from 5 leans at 3 behind ten hours, and at 1 behind twenty.
    static void promise27_oneHourAndTwenty(Due due) {
        PicturePegs x = twinAndPupil(5, 9);
        due.is("placeFor(0, 9)", x.placeFor(0, 9), 0);
        due.is("placeFor(0, 10)", x.placeFor(0, 10), 3);
        due.is("placeFor(0, 19)", x.placeFor(0, 19), 3);
        due.is("placeFor(0, 20)", x.placeFor(0, 20), 1);
        x.set(BELL, 0);
        due.is("placeFor(0, 1)", x.placeFor(0, 1), 6);
    }

    static void promise27_ofSeveralTheLeast(Due due) {
        due.is("none knows anybody", twinsAt(3).placeFor(0, 20), 0);
        due.is("one at each of two places", twinsAt(0, 11, 7).placeFor(0, 1), 7);
        due.is("two at the farther one", twinsAt(0, 7, 11, 11).placeFor(0, 1), 11);
    }

    static void promise27_placesGoRound(Due due) {
        PicturePegs x = twinsAt(0);
        x.person(BISHOP, DUCK, 0, 5);
        due.is("a bishop to 0 from 10", x.placeFor(1, 1), 10);
        x.mind(1, DEAN, DUCK);
        x.bring(0, 11);
        due.is("a dean to 11 from 0", x.placeFor(1, 1), 0);
        x.bring(0, 10);
        due.is("a dean to 10 from 11", x.placeFor(1, 1), 11);
    }

    static void promise27_nothingChanges(Due due) {
        changesNothing(due, "placeFor(0, 20)", x -> x.placeFor(0, 20));
        changesNothing(due, "placeFor(4, 1)", x -> x.placeFor(4, 1));
    }

    // ---- promise 28 ----

    static void promise28_noSuchOneIsBad(Due due) {
        for (int person : outside(0, 4)) {
            refused(due, "circle(" + person + ")", BAD, x -> x.circle(person));
        }
    }

    static void promise28_thatOneAlone(Due due) {
        PicturePegs x = crowd(8, PUPIL, DUCK, 0);
        for (int person = 0; person < 8; person++) {
            due.is("circle(" + person + ")", x.circle(person), 1 << person);
        }
    }

    static void promise28_theLongestChain(Due due) {
        int[][] chains = {{0, 1, 2, 3, 4, 5, 6, 7}, {7, 6, 5, 4, 3, 2, 1, 0}, {3, 7, 0, 6, 1, 5, 2, 4}};
        for (int[] chain : chains) {
            PicturePegs x = crowd(8, PUPIL, DUCK, 0);
            for (int i = 0; i + 1 < 8; i++) {
                x.know(chain[i], chain[i + 1], 1);
            }
            for (int person = 0; person < 8; person++) {
                due.is("circle(" + person + ")", x.circle(person), 255);
            }
        }
    }

    static void promise28_nothingChanges(Due due) {
        changesNothing(due, "circle(0)", x -> x.circle(0));
        changesNothing(due, "circle(4)", x -> x.circle(4));
    }

    // ---- promise 29 ----

    static void promise29_emptyIfThereArentTwo(Due due) {
        due.is("nobody", new PicturePegs().apart(), 0);
        due.is("one", twinsAt(3).apart(), 0);
    }

    static void promise29_noneByNoSet(Due due) {
        due.is("two of a kind and peg", twinsAt(3, 4).apart(), NONE);
        PicturePegs x = crowd(8, PUPIL, DUCK, 0);
        for (int person = 0; person < 6; person++) {
            x.mind(person, person, PEAR);
        }
        x.age(CRACKER, 99);
        x.mind(6, TWIN, BLANK);
        x.mind(7, PUPIL, DRUM);
        due.is("the first and the last", x.apart(), NONE);
        x.weigh(DRUM, 39);
        due.is("the first and the last, cut", x.apart(), NONE);
        x.weigh(DRUM, 40);
        due.is("these no more", x.apart(), 1 << 4 | 1);
        PicturePegs y = twinsAt(3, 4);
        y.mind(1, TWIN, BLANK);
        y.weigh(DUCK, 9);
        due.is("by 0 each", y.apart(), NONE);
    }

    static void promise29_ofSeveralTheLeast(Due due) {
        for (int bell = 0; bell <= 9; bell++) {
            PicturePegs x = new PicturePegs();
            x.set(BELL, bell);
            x.person(PUPIL, DUCK, 0, 0);
            x.person(BISHOP, DUCK, 0, 0);
            due.is("any rest, BELL " + bell, x.apart(), 1);
        }
    }

    static void promise29_byTheBellAlone(Due due) {
        for (int bell = 0; bell <= 9; bell++) {
            PicturePegs x = new PicturePegs();
            x.set(BELL, bell);
            x.person(PUPIL, DUCK, 0, 0);
            x.person(PUPIL, BLANK, 0, 0);
            due.is("BELL " + bell, x.apart(), 1 << bell);
        }
    }

    static void promise29_byAnyRestButTheBell(Due due) {
        for (int bell = 0; bell <= 9; bell++) {
            PicturePegs x = new PicturePegs();
            x.set(BELL, bell);
            x.person(PUPIL, DUCK, 0, 0);
            x.person(TWIN, DUCK, 0, 0);
            due.is("BELL " + bell, x.apart(), bell == 0 ? 2 : 1);
        }
    }

    static void promise29_byTwoRests(Due due) {
        for (int bell = 0; bell <= 9; bell++) {
            PicturePegs x = new PicturePegs();
            x.set(BELL, bell);
            x.person(PUPIL, DUCK, 0, 0);
            x.person(TWIN, DUCK, 0, 0);
            x.person(PUPIL, BLANK, 0, 0);
            due.is("BELL " + bell, x.apart(), bell == 0 ? 3 : 1 << bell | 1);
        }
    }

    static void promise29_nothingChanges(Due due) {
        changesNothing(due, "apart()", PicturePegs::apart);
    }

    // ---- promise 30 ----

    static void promise30_noSuchSheetIsBad(Due due) {
        for (int sheet : outside(0, 3)) {
            refused(due, "fits(" + sheet + ", 0, 0)", BAD, x -> x.fits(sheet, 0, 0));
            refused(due, "fits(" + sheet + ", 0, 1)", BAD, x -> x.fits(sheet, 0, 1));
        }
    }

    static void promise30_noSuchOneIsBad(Due due) {
        for (int person : outside(0, 4)) {
            refused(due, "fits(0, " + person + ", 0)", BAD, x -> x.fits(0, person, 0));
            refused(due, "fits(2, " + person + ", 0), missing", BAD, x -> x.fits(2, person, 0));
        }
    }

    static void promise30_noSuchWhatIsBad(Due due) {
        for (int what : outside(0, 1)) {
            refused(due, "fits(0, 0, " + what + ")", BAD, x -> x.fits(0, 0, what));
            refused(due, "fits(2, 0, " + what + "), missing", BAD, x -> x.fits(2, 0, what));
        }
    }

    static void promise30_missingSheet(Due due) {
        refused(due, "fits(2, 0, 0)", -11, x -> x.fits(2, 0, 0));
        refused(due, "fits(2, 4, 1)", -11, x -> x.fits(2, 4, 1));
    }

    static void promise30_noneFits(Due due) {
        refused(due, "fits(0, 0, 0)", 0, x -> x.fits(0, 0, 0));
        refused(due, "fits(0, 0, 1)", NONE, x -> x.fits(0, 0, 1));
    }

    static void promise30_noNumbersAtAll(Due due) {
        PicturePegs x = twinsAt(3, 3);
        for (int sort = 0; sort < 4; sort++) {
            x.sheet(sort, sort, 0);
            due.is("fits(" + sort + ", 0, 0)", x.fits(sort, 0, 0), 6);
            due.is("fits(" + sort + ", 0, 1)", x.fits(sort, 0, 1), 0);
        }
    }

    static void promise30_minusOneIsAny(Due due) {
        PicturePegs x = twinsAt(3, 3);
        for (int sort = 0; sort < 4; sort++) {
            x.sheet(sort, sort, 2);
            x.put(sort, 0, -1);
            x.put(sort, 1, -1);
            due.is("both any, sort " + sort, x.fits(sort, 0, 0), 6);
            x.put(sort, 1, 1);
            due.is("the first any, sort " + sort, x.fits(sort, 0, 0), 1);
            x.put(sort, 0, 1);
            x.put(sort, 1, -1);
            due.is("the second any, sort " + sort, x.fits(sort, 0, 0), 1);
            x.put(sort, 0, -2);
            due.is("-2 is none, sort " + sort, x.fits(sort, 0, 0), 0);
        }
        x.put(0, 0, 255);
        due.is("255 of bytes is -1", x.fits(0, 0, 0), 6);
        x.put(1, 0, 65535);
        due.is("65535 of shorts is -1", x.fits(1, 0, 0), 6);
        x.put(2, 0, 65535);
        due.is("65535 of ints is none", x.fits(2, 0, 0), 0);
    }

    static void promise30_knowsNobodyAndAll(Due due) {
        PicturePegs x = crowd(8, TWIN, PEAR, 3);
        x.sheet(0, 0, 1);
        due.is("nobody: all pegs but its own", x.fits(0, 7, 0), 5);
        x.put(0, 0, 7);
        due.is("seven: its own", x.fits(0, 7, 0), 1);
        due.is("seven: its own", x.fits(0, 7, 1), PEAR);
        x.put(0, 0, 8);
        due.is("eight: none", x.fits(0, 7, 0), 0);
        due.is("eight: none", x.fits(0, 7, 1), NONE);
    }

    static void promise30_fortyNumbers(Due due) {
        PicturePegs x = twinAndPupil(8, 9);
        x.mind(1, PUPIL, PEAR);
        for (int sort = 0; sort < 4; sort++) {
            x.sheet(sort, sort, 40);
            due.is("knows nobody, sort " + sort, x.fits(sort, 0, 0), 5);
            x.put(sort, 39, 1);
            due.is("knows one behind 40 hours, sort " + sort, x.fits(sort, 0, 0), 1);
            due.is("of the pear, sort " + sort, x.fits(sort, 0, 1), PEAR);
            x.put(sort, 38, 1);
            due.is("not behind 39, sort " + sort, x.fits(sort, 0, 0), 0);
        }
    }

    static void promise30_firstAndLastPegIsTheLeast(Due due) {
        PicturePegs x = twinsAt(3, 3, 3);
        x.sheet(0, 0, 1);
        x.put(0, 0, 2);
        due.is("the duck", x.fits(0, 0, 1), DUCK);
        x.mind(1, TWIN, KITE);
        x.weigh(BLANK, 30);
        due.is("the blank one", x.fits(0, 0, 1), BLANK);
        due.is("the blank one alone", x.fits(0, 0, 0), 1);
    }

    static void promise30_nothingChanges(Due due) {
        changesNothing(due, "fits(0, 4, 0)", x -> x.fits(0, 4, 0));
        changesNothing(due, "fits(1, 4, 1)", x -> x.fits(1, 4, 1));
        changesNothing(due, "fits(3, 0, 0)", x -> x.fits(3, 0, 0));
    }

    // ---- promise 31 ----

    static void promise31_nBelow0OrAbove8IsBad(Due due) {
        for (int n : outside(0, 8)) {
            refused(due, "odds(" + n + ", 0, 0)", BAD, x -> x.odds(n, 0, 0));
            refused(due, "odds(" + n + ", " + n + ", 1)", BAD, x -> x.odds(n, n, 1));
        }
    }

    static void promise31_kBelow0OrAboveNIsBad(Due due) {
        for (int n = 0; n <= 8; n++) {
            int years = n;
            for (int k : outside(0, n)) {
                refused(due, "odds(" + n + ", " + k + ", 0)", BAD, x -> x.odds(years, k, 0));
            }
        }
    }

    static void promise31_noSuchPartIsBad(Due due) {
        for (int part : outside(0, 1)) {
            refused(due, "odds(3, 1, " + part + ")", BAD, x -> x.odds(3, 1, part));
        }
    }

    static void promise31_noYears(Due due) {
        for (int chance = 0; chance <= 99; chance++) {
            PicturePegs x = new PicturePegs();
            x.set(CHANCE, chance);
            due.is("odds(0, 0, 0)", x.odds(0, 0, 0), 1);
            due.is("odds(0, 0, 1)", x.odds(0, 0, 1), 1);
        }
    }

    static void promise31_chanceOf0(Due due) {
        PicturePegs x = new PicturePegs();
        x.set(CHANCE, 0);
        for (int n = 0; n <= 8; n++) {
            for (int k = 0; k <= n; k++) {
                due.is("odds(" + n + ", " + k + ", 0)", x.odds(n, k, 0), k == 0 ? 1 : 0);
                due.is("odds(" + n + ", " + k + ", 1)", x.odds(n, k, 1), 1);
            }
        }
    }

    static void promise31_theLargestDoNotWrap(Due due) {
        PicturePegs x = new PicturePegs();
        x.set(CHANCE, 99);
        due.is("odds(8, 8, 0)", x.odds(8, 8, 0), 9227446944279201L);
        due.is("odds(8, 8, 1)", x.odds(8, 8, 1), 10000000000000000L);
        x.set(CHANCE, 1);
        due.is("odds(8, 0, 0)", x.odds(8, 0, 0), 9227446944279201L);
        due.is("odds(8, 8, 0)", x.odds(8, 8, 0), 1);
        due.is("odds(8, 8, 1)", x.odds(8, 8, 1), 10000000000000000L);
    }

    static void promise31_withoutACommonDivisor(Due due) {
        for (int chance = 0; chance <= 99; chance++) {
            PicturePegs x = new PicturePegs();
            x.set(CHANCE, chance);
            for (int n = 0; n <= 8; n++) {
                BigInteger below = BigInteger.valueOf(100).pow(n);
                BigInteger ways = BigInteger.ONE;
                for (int k = 0; k <= n; k++) {
                    BigInteger above = ways.multiply(BigInteger.valueOf(chance).pow(k))
                            .multiply(BigInteger.valueOf(100 - chance).pow(n - k));
                    BigInteger common = above.gcd(below);
                    String call = "CHANCE " + chance + ", odds(" + n + ", " + k + ", ";
                    due.is(call + "0)", x.odds(n, k, 0), above.divide(common).longValueExact());
                    due.is(call + "1)", x.odds(n, k, 1), below.divide(common).longValueExact());
                    ways = ways.multiply(BigInteger.valueOf(n - k)).divide(BigInteger.valueOf(k + 1));
                }
            }
        }
    }

    static void promise31_nothingChanges(Due due) {
        changesNothing(due, "odds(8, 4, 0)", x -> x.odds(8, 4, 0));
    }

    // ---- promise 32 ----

    static void promise32_nBelow0OrAbove99IsBad(Due due) {
        for (int n : outside(0, 99)) {
            refused(due, "hope(" + n + ", 0)", BAD, x -> x.hope(n, 0));
            refused(due, "hope(" + n + ", 1)", BAD, x -> x.hope(n, 1));
        }
    }

    static void promise32_noSuchPartIsBad(Due due) {
        for (int part : outside(0, 1)) {
            refused(due, "hope(3, " + part + ")", BAD, x -> x.hope(3, part));
        }
    }

    static void promise32_noYearsOrNoChanceIs0By1(Due due) {
        PicturePegs x = new PicturePegs();
        due.is("hope(0, 0)", x.hope(0, 0), 0);
        due.is("hope(0, 1)", x.hope(0, 1), 1);
        x.set(CHANCE, 0);
        due.is("hope(99, 0)", x.hope(99, 0), 0);
        due.is("hope(99, 1)", x.hope(99, 1), 1);
    }

    static void promise32_mostYearsAndChance(Due due) {
        PicturePegs x = new PicturePegs();
        x.set(CHANCE, 99);
        due.is("hope(99, 0)", x.hope(99, 0), 9801);
        due.is("hope(99, 1)", x.hope(99, 1), 100);
        due.is("hope(1, 0)", x.hope(1, 0), 99);
        due.is("hope(1, 1)", x.hope(1, 1), 100);
    }

    static void promise32_withoutACommonDivisor(Due due) {
        for (int chance = 0; chance <= 99; chance++) {
            PicturePegs x = new PicturePegs();
            x.set(CHANCE, chance);
            for (int n = 0; n <= 99; n++) {
                int common = BigInteger.valueOf((long) n * chance).gcd(BigInteger.valueOf(100)).intValue();
                String call = "CHANCE " + chance + ", hope(" + n + ", ";
                due.is(call + "0)", x.hope(n, 0), n * chance / common);
                due.is(call + "1)", x.hope(n, 1), 100 / common);
            }
        }
    }
}
