/** Boundary cases of promises 4 to 15: laws, people, pegs. */
final class PeopleEdges extends Edge {
    private static final int[] LAW_MOST = {9, 9, 9, 99};

    private static PicturePegs one(int kind, int peg, int age, int at) {
        PicturePegs x = new PicturePegs();
        x.person(kind, peg, age, at);
        return x;
    }

    // ---- promise 4 ----

    static void promise04_noSuchLawIsBad(Due due) {
        for (int law : outside(0, 3)) {
            refused(due, "set(" + law + ", 0)", BAD, x -> x.set(law, 0));
        }
    }

    static void promise04_lawTooSmallIsBad(Due due) {
        for (int law = 0; law < 4; law++) {
            int asked = law;
            for (int v : tooSmall(0)) {
                refused(due, "set(" + law + ", " + v + ")", BAD, x -> x.set(asked, v));
            }
        }
    }

    static void promise04_lawTooLargeIsBad(Due due) {
        for (int law = 0; law < 4; law++) {
            int asked = law;
            for (int v : tooLarge(LAW_MOST[law])) {
                refused(due, "set(" + law + ", " + v + ")", BAD, x -> x.set(asked, v));
            }
        }
    }

    static void promise04_leastAndMostOfEachLaw(Due due) {
        int[] first = {4, 1, 2, 20};
        for (int law = 0; law < 4; law++) {
            PicturePegs x = new PicturePegs();
            due.is("set(" + law + ", least)", x.set(law, 0), first[law]);
            due.is("set(" + law + ", most)", x.set(law, LAW_MOST[law]), 0);
            due.is("set(" + law + ", most)", x.set(law, LAW_MOST[law]), LAW_MOST[law]);
            for (int other = 0; other < 4; other++) {
                due.is("lawOf(" + other + ")", x.lawOf(other), other == law ? LAW_MOST[law] : first[other]);
            }
        }
    }

    // ---- promise 5 ----

    static void promise05_noSuchLawIsBad(Due due) {
        for (int law : outside(0, 3)) {
            refused(due, "lawOf(" + law + ")", BAD, x -> x.lawOf(law));
        }
    }

    static void promise05_askingChangesNothing(Due due) {
        refused(due, "lawOf(0)", 6, x -> x.lawOf(BELL));
        refused(due, "lawOf(1)", 3, x -> x.lawOf(PULL));
        refused(due, "lawOf(2)", 5, x -> x.lawOf(ROOM));
        refused(due, "lawOf(3)", 7, x -> x.lawOf(CHANCE));
    }

    // ---- promise 6 ----

    static void promise06_noSuchKindIsBad(Due due) {
        for (int kind : outside(0, 5)) {
            refused(due, "person(" + kind + ", 0, 0, 0)", BAD, x -> x.person(kind, 0, 0, 0));
        }
    }

    static void promise06_noSuchPegIsBad(Due due) {
        for (int peg : outside(0, 5)) {
            refused(due, "person(0, " + peg + ", 0, 0)", BAD, x -> x.person(0, peg, 0, 0));
        }
    }

    static void promise06_ageBelow0OrAbove99IsBad(Due due) {
        for (int age : outside(0, 99)) {
            refused(due, "person(0, 0, " + age + ", 0)", BAD, x -> x.person(0, 0, age, 0));
        }
    }

    static void promise06_noSuchPlaceIsBad(Due due) {
        for (int at : outside(0, 11)) {
            refused(due, "person(0, 0, 0, " + at + ")", BAD, x -> x.person(0, 0, 0, at));
        }
    }

    static void promise06_leastAndMostOfAll(Due due) {
        PicturePegs x = new PicturePegs();
        due.is("person(0, 0, 0, 0)", x.person(0, 0, 0, 0), 0);
        due.is("person(5, 5, 99, 11)", x.person(5, 5, 99, 11), 1);
        int[] most = {5, 5, 99, 11};
        for (int what = 0; what < 4; what++) {
            due.is("of(0, " + what + ")", x.of(0, what), 0);
            due.is("of(1, " + what + ")", x.of(1, what), most[what]);
        }
    }

    static void promise06_numberedAsTheyComeUpTo7(Due due) {
        PicturePegs x = new PicturePegs();
        for (int i = 0; i < 8; i++) {
            due.is("person", x.person(0, 0, 90 + i, i), i);
        }
        for (int i = 0; i < 8; i++) {
            due.is("of(" + i + ", 2)", x.of(i, 2), 90 + i);
        }
    }

    static void promise06_aNinthIsFull(Due due) {
        refusedOfEight(due, "person(0, 0, 0, 0)", FULL, x -> x.person(0, 0, 0, 0));
        refusedOfEight(due, "person(5, 5, 99, 11)", FULL, x -> x.person(5, 5, 99, 11));
        PicturePegs told = new PicturePegs();
        Due.school(told, "twin at 0;twin at 1;twin at 2;twin at 3;twin at 4;twin at 5;twin at 6;");
        due.is("an eighth", told.person(0, 0, 0, 0), 7);
        due.is("a ninth", told.person(0, 0, 0, 0), FULL);
    }

    static void promise06_badIsNamedBeforeFull(Due due) {
        refusedOfEight(due, "person(6, 0, 0, 0)", BAD, x -> x.person(6, 0, 0, 0));
        refusedOfEight(due, "person(0, 6, 0, 0)", BAD, x -> x.person(0, 6, 0, 0));
        refusedOfEight(due, "person(0, 0, 100, 0)", BAD, x -> x.person(0, 0, 100, 0));
        refusedOfEight(due, "person(0, 0, 0, 12)", BAD, x -> x.person(0, 0, 0, 12));
    }

    static void promise06_knowsNobodyAtFirst(Due due) {
        PicturePegs x = crowd(2, TWIN, DUCK, 3);
        x.keep();
        x.person(TWIN, DUCK, 0, 3);
        due.is("all know each other", x.hours(1), 3);
        due.is("again()", x.again(), 2);
        due.is("one of a number that was there", x.person(TWIN, DUCK, 0, 3), 2);
        due.is("of(2, 4)", x.of(2, 4), 0);
        due.is("of(0, 4)", x.of(0, 4), 0);
        due.is("pairs", x.state(1), 0);
    }

    // ---- promise 7 ----

    static void promise07_noSuchOneIsBad(Due due) {
        for (int person : outside(0, 4)) {
            for (int what = 0; what <= 5; what++) {
                int asked = what;
                refused(due, "of(" + person + ", " + what + ")", BAD, x -> x.of(person, asked));
            }
        }
    }

    static void promise07_noSuchWhatIsBad(Due due) {
        for (int what : outside(0, 5)) {
            refused(due, "of(0, " + what + ")", BAD, x -> x.of(0, what));
        }
    }

    static void promise07_lastOneOfEight(Due due) {
        PicturePegs x = crowd(8, PUPIL, DUCK, 3);
        due.is("of(7, 3)", x.of(7, 3), 3);
        due.is("of(8, 3)", x.of(8, 3), BAD);
    }

    static void promise07_knowsNobodyAndAll(Due due) {
        PicturePegs x = crowd(8, TWIN, DUCK, 3);
        due.is("of(0, 4)", x.of(0, 4), 0);
        x.hours(1);
        for (int person = 0; person < 8; person++) {
            due.is("of(" + person + ", 4)", x.of(person, 4), 255 - (1 << person));
        }
    }

    static void promise07_othersAtItsPlaceFrom0To7(Due due) {
        PicturePegs x = new PicturePegs();
        for (int n = 0; n < 8; n++) {
            x.person(PUPIL, DUCK, 0, 11);
            due.is("of(0, 5) of " + (n + 1), x.of(0, 5), n);
        }
        x.bring(3, 0);
        due.is("of(3, 5)", x.of(3, 5), 0);
        due.is("of(7, 5)", x.of(7, 5), 6);
    }

    // ---- promise 8 ----

    static void promise08_noSuchOneIsBad(Due due) {
        for (int person : outside(0, 4)) {
            refused(due, "leans(" + person + ", 0)", BAD, x -> x.leans(person, 0));
        }
    }

    static void promise08_hourBelow0OrAbove9999IsBad(Due due) {
        for (int hour : outside(0, 9999)) {
            refused(due, "leans(0, " + hour + ")", BAD, x -> x.leans(0, hour));
        }
    }

    static void promise08_leastAndMostHour(Due due) {
        PicturePegs x = one(PUPIL, DUCK, 0, 0);
        x.set(BELL, 0);
        due.is("leans(0, 0)", x.leans(0, 0), 1003);
        due.is("leans(0, 9999)", x.leans(0, 9999), 1000);
        x.set(BELL, 9);
        due.is("leans(0, 0)", x.leans(0, 0), 1000);
        due.is("leans(0, 9999)", x.leans(0, 9999), 1003);
    }

    static void promise08_hourByItsRestBy10(Due due) {
        for (int bell = 0; bell <= 9; bell++) {
            PicturePegs x = one(PUPIL, DUCK, 0, 0);
            x.set(BELL, bell);
            for (int hour = 0; hour < 30; hour++) {
                due.is("BELL " + bell + ", leans(0, " + hour + ")", x.leans(0, hour),
                        hour % 10 == bell ? 1003 : 1000);
            }
        }
    }

    static void promise08_notByTheHourThatItIs(Due due) {
        PicturePegs x = one(PUPIL, DUCK, 0, 0);
        x.hours(7);
        due.is("leans(0, 4)", x.leans(0, 4), 1003);
        due.is("leans(0, 7)", x.leans(0, 7), 1000);
    }

    static void promise08_tenthsAreCut(Due due) {
        for (int v = 0; v <= 99; v++) {
            PicturePegs x = one(TWIN, DRUM, 0, 0);
            x.person(CRACKER, DUCK, v, 0);
            x.weigh(DRUM, v);
            due.is("a twin of weight " + v, x.leans(0, 0), 1000 + v / 10);
            due.is("a cracker of age " + v, x.leans(1, 0), 999 + v / 10);
        }
    }

    static void promise08_mayBeBelow0(Due due) {
        PicturePegs x = one(BURGLAR, DUCK, 99, 0);
        x.person(CRACKER, DUCK, 9, 0);
        due.is("a burglar, not at the bell", x.leans(0, 5), 999);
        due.is("a cracker under ten, not at the bell", x.leans(1, 5), 999);
        x.weigh(DUCK, 9);
        due.is("a burglar at the bell, of little weight", x.leans(0, 4), 999);
    }

    static void promise08_leastAndMostWeight(Due due) {
        int[] none = {1000, 1001, 999, 1002, 1008, 1000};
        int[] most = {1009, 1010, 1008, 1020, 1017, 1009};
        for (int kind = 0; kind < 6; kind++) {
            PicturePegs x = one(kind, BLANK, 99, 0);
            due.is("weight 0 at the bell, kind " + kind, x.leans(0, 4), none[kind]);
            x.weigh(BLANK, 99);
            due.is("weight 99 at the bell, kind " + kind, x.leans(0, 4), most[kind]);
            due.is("weight 99, not at the bell, kind " + kind, x.leans(0, 3),
                    kind == TWIN ? 1009 : none[kind]);
        }
    }

    // ---- promise 9 ----

    static void promise09_noSuchOneIsBad(Due due) {
        for (int person : outside(0, 4)) {
            refused(due, "strides(" + person + ")", BAD, x -> x.strides(person));
        }
    }

    static void promise09_leastAndMostPull(Due due) {
        int[] least = {1001, 1002, 1001, 999, 1002, 1000};
        int[] most = {1001, 1002, 1010, 999, 1020, 1000};
        for (int kind = 0; kind < 6; kind++) {
            PicturePegs x = one(kind, DUCK, 0, 0);
            x.set(PULL, 0);
            due.is("PULL 0, kind " + kind, x.strides(0), least[kind]);
            x.set(PULL, 9);
            due.is("PULL 9, kind " + kind, x.strides(0), most[kind]);
        }
    }

    static void promise09_aDeanGoesBack(Due due) {
        due.is("strides(0)", one(DEAN, DUCK, 0, 0).strides(0), 999);
    }

    static void promise09_aTwinStays(Due due) {
        due.is("strides(0)", one(TWIN, DUCK, 0, 0).strides(0), 1000);
    }

    // ---- promise 10 ----

    static void promise10_noSuchOneIsBad(Due due) {
        for (int person : outside(0, 4)) {
            refused(due, "mind(" + person + ", 1, 1)", BAD, x -> x.mind(person, 1, 1));
        }
    }

    static void promise10_noSuchKindIsBad(Due due) {
        for (int kind : outside(0, 5)) {
            refused(due, "mind(0, " + kind + ", 1)", BAD, x -> x.mind(0, kind, 1));
        }
    }

    static void promise10_noSuchPegIsBad(Due due) {
        for (int peg : outside(0, 5)) {
            refused(due, "mind(0, 1, " + peg + ")", BAD, x -> x.mind(0, 1, peg));
        }
    }

    static void promise10_leastAndMostKindAndPeg(Due due) {
        PicturePegs x = one(BISHOP, PEAR, 7, 3);
        due.is("mind(0, 5, 5)", x.mind(0, 5, 5), BISHOP);
        due.is("of(0, 0)", x.of(0, 0), 5);
        due.is("of(0, 1)", x.of(0, 1), 5);
        due.is("mind(0, 0, 0)", x.mind(0, 0, 0), 5);
        due.is("of(0, 0)", x.of(0, 0), 0);
        due.is("of(0, 1)", x.of(0, 1), 0);
        due.is("the same once more", x.mind(0, 0, 0), 0);
    }

    static void promise10_ageAndPlaceAndKnownStay(Due due) {
        PicturePegs x = crowd(2, TWIN, DUCK, 11);
        x.age(1, 99);
        x.hours(1);
        due.is("mind(1, 3, 4)", x.mind(1, DEAN, LADDER), TWIN);
        due.is("of(1, 2)", x.of(1, 2), 99);
        due.is("of(1, 3)", x.of(1, 3), 11);
        due.is("of(1, 4)", x.of(1, 4), 1);
        due.is("of(0, 0)", x.of(0, 0), TWIN);
    }

    // ---- promise 11 ----

    static void promise11_noSuchOneIsBad(Due due) {
        for (int person : outside(0, 4)) {
            refused(due, "age(" + person + ", 5)", BAD, x -> x.age(person, 5));
        }
    }

    static void promise11_ageTooSmallIsBad(Due due) {
        for (int v : tooSmall(0)) {
            refused(due, "age(0, " + v + ")", BAD, x -> x.age(0, v));
        }
    }

    static void promise11_ageTooLargeIsBad(Due due) {
        for (int v : tooLarge(99)) {
            refused(due, "age(0, " + v + ")", BAD, x -> x.age(0, v));
        }
    }

    static void promise11_leastAndMostAge(Due due) {
        PicturePegs x = one(PUPIL, DUCK, 7, 0);
        due.is("age(0, 99)", x.age(0, 99), 7);
        due.is("age(0, 0)", x.age(0, 0), 99);
        due.is("of(0, 2)", x.of(0, 2), 0);
    }

    // ---- promise 12 ----

    static void promise12_noSuchOneIsBad(Due due) {
        for (int person : outside(0, 4)) {
            refused(due, "bring(" + person + ", 5)", BAD, x -> x.bring(person, 5));
        }
    }

    static void promise12_noSuchPlaceIsBad(Due due) {
        for (int place : outside(0, 11)) {
            refused(due, "bring(0, " + place + ")", BAD, x -> x.bring(0, place));
        }
    }

    static void promise12_firstAndLastPlace(Due due) {
        PicturePegs x = one(PUPIL, DUCK, 0, 7);
        due.is("bring(0, 11)", x.bring(0, 11), 7);
        due.is("bring(0, 0)", x.bring(0, 0), 11);
        due.is("of(0, 3)", x.of(0, 3), 0);
    }

    static void promise12_nobodyGetsToKnowByIt(Due due) {
        PicturePegs x = crowd(2, TWIN, DUCK, 5);
        x.bring(1, 6);
        x.bring(1, 5);
        due.is("of(0, 4)", x.of(0, 4), 0);
    }

    // ---- promise 13 ----

    static void promise13_noSuchOneIsBad(Due due) {
        for (int person : outside(0, 4)) {
            refused(due, "know(" + person + ", 0, 1)", BAD, x -> x.know(person, 0, 1));
            refused(due, "know(0, " + person + ", 1)", BAD, x -> x.know(0, person, 1));
        }
    }

    static void promise13_oneAndTheSameIsBad(Due due) {
        for (int person = 0; person < 5; person++) {
            int asked = person;
            refused(due, "know(" + person + " twice, 1)", BAD, x -> x.know(asked, asked, 1));
            refused(due, "know(" + person + " twice, 0)", BAD, x -> x.know(asked, asked, 0));
        }
    }

    static void promise13_vBelow0OrAbove1IsBad(Due due) {
        for (int v : outside(0, 1)) {
            refused(due, "know(0, 4, " + v + ")", BAD, x -> x.know(0, 4, v));
            refused(due, "know(2, 3, " + v + ")", BAD, x -> x.know(2, 3, v));
        }
    }

    static void promise13_eachKnowsTheOther(Due due) {
        for (int one = 0; one < 8; one++) {
            for (int other = 0; other < 8; other++) {
                if (one != other) {
                    PicturePegs x = crowd(8, PUPIL, DUCK, 0);
                    due.is("know(.., 1)", x.know(one, other, 1), 0);
                    due.is("of(" + one + ", 4)", x.of(one, 4), 1 << other);
                    due.is("of(" + other + ", 4)", x.of(other, 4), 1 << one);
                    due.is("pairs", x.state(1), 1);
                    due.is("know(.., 0), the other first", x.know(other, one, 0), 1);
                    due.is("of(" + one + ", 4)", x.of(one, 4), 0);
                    due.is("of(" + other + ", 4)", x.of(other, 4), 0);
                    due.is("pairs", x.state(1), 0);
                }
            }
        }
    }

    static void promise13_whatItIsAlreadyStays(Due due) {
        PicturePegs x = crowd(3, PUPIL, DUCK, 0);
        due.is("no more, as before", x.know(0, 1, 0), 0);
        due.is("of(0, 4)", x.of(0, 4), 0);
        x.know(0, 1, 1);
        x.know(0, 2, 1);
        due.is("from now on, as before", x.know(1, 0, 1), 1);
        due.is("of(0, 4)", x.of(0, 4), 6);
        due.is("no more", x.know(0, 1, 0), 1);
        due.is("of(0, 4)", x.of(0, 4), 4);
    }

    // ---- promise 14 ----

    static void promise14_noSuchPegIsBad(Due due) {
        for (int peg : outside(0, 5)) {
            refused(due, "weigh(" + peg + ", 5)", BAD, x -> x.weigh(peg, 5));
        }
    }

    static void promise14_weightTooSmallIsBad(Due due) {
        for (int v : tooSmall(0)) {
            refused(due, "weigh(0, " + v + ")", BAD, x -> x.weigh(DUCK, v));
            refused(due, "weigh(5, " + v + ")", BAD, x -> x.weigh(BLANK, v));
        }
    }

    static void promise14_weightTooLargeIsBad(Due due) {
        for (int v : tooLarge(99)) {
            refused(due, "weigh(0, " + v + ")", BAD, x -> x.weigh(DUCK, v));
            refused(due, "weigh(5, " + v + ")", BAD, x -> x.weigh(BLANK, v));
        }
    }

    static void promise14_leastAndMostWeight(Due due) {
        PicturePegs x = new PicturePegs();
        for (int peg = 0; peg < 6; peg++) {
            due.is("weigh(" + peg + ", 99)", x.weigh(peg, 99), peg == BLANK ? 0 : 30);
            due.is("weigh(" + peg + ", 0)", x.weigh(peg, 0), 99);
            due.is("peg(" + peg + ", 0)", x.peg(peg, 0), 0);
        }
    }

    // ---- promise 15 ----

    static void promise15_noSuchPegIsBad(Due due) {
        for (int peg : outside(0, 5)) {
            refused(due, "peg(" + peg + ", 0)", BAD, x -> x.peg(peg, 0));
            refused(due, "peg(" + peg + ", 1)", BAD, x -> x.peg(peg, 1));
        }
    }

    static void promise15_noSuchWhatIsBad(Due due) {
        for (int what : outside(0, 1)) {
            refused(due, "peg(0, " + what + ")", BAD, x -> x.peg(DUCK, what));
        }
    }

    static void promise15_nobodyAndAllHadIt(Due due) {
        PicturePegs x = crowd(8, PUPIL, BLANK, 0);
        for (int peg = DUCK; peg <= LADDER; peg++) {
            due.is("peg(" + peg + ", 1)", x.peg(peg, 1), 0);
        }
        due.is("peg(5, 1)", x.peg(BLANK, 1), 255);
        x.mind(7, PUPIL, DUCK);
        due.is("peg(0, 1)", x.peg(DUCK, 1), 128);
        due.is("peg(5, 1)", x.peg(BLANK, 1), 127);
    }
}
