/** Boundary cases of promises 16 to 20: hours, hours by draws, the state. */
final class HoursEdges extends Edge {
    private static PicturePegs one(int kind, int at) {
        PicturePegs x = new PicturePegs();
        x.person(kind, DUCK, 0, at);
        return x;
    }

    private static int placeBehindOneHour(int kind, int pull, int at) {
        PicturePegs x = one(kind, at);
        x.set(PULL, pull);
        x.hours(1);
        return x.of(0, 3);
    }

    // Two at the bell, by their kinds, pegs and places.
    private static PicturePegs two(int kind, int peg, int at, int kind2, int peg2, int at2) {
        PicturePegs x = new PicturePegs();
        x.person(kind, peg, 0, at);
        x.person(kind2, peg2, 0, at2);
        x.set(BELL, 0);
        return x;
    }

    private static int next(int z) {
        return (int) (z * 1103515245L + 12345L);
    }

    private static int drawn(int z) {
        return (int) ((z & 0xffffffffL) / 65536);
    }

    // The first seed from which the draw of that number leaves so much.
    private static int seedWhoseDrawLeaves(int number, int by, int rest) {
        for (int seed = 0; seed < 1000000; seed++) {
            int z = seed;
            for (int i = 0; i < number; i++) {
                z = next(z);
            }
            if (drawn(z) % by == rest) {
                return seed;
            }
        }
        return -1;
    }

    // ---- promise 16 ----

    static void promise16_nTooSmallIsBad(Due due) {
        for (int n : tooSmall(1)) {
            refused(due, "hours(" + n + ")", BAD, x -> x.hours(n));
        }
    }

    static void promise16_nTooLargeIsBad(Due due) {
        for (int n : tooLarge(60)) {
            refused(due, "hours(" + n + ")", BAD, x -> x.hours(n));
        }
    }

    static void promise16_oneHourAndSixty(Due due) {
        PicturePegs x = one(PUPIL, 0);
        due.is("hours(1)", x.hours(1), 0);
        due.is("state(0)", x.state(0), 1);
        due.is("of(0, 3)", x.of(0, 3), 1);
        due.is("hours(60)", x.hours(60), 0);
        due.is("state(0)", x.state(0), 61);
        due.is("of(0, 3)", x.of(0, 3), 1);
    }

    static void promise16_hoursOfNobody(Due due) {
        PicturePegs x = new PicturePegs();
        due.is("hours(60)", x.hours(60), 0);
        due.is("state(0)", x.state(0), 60);
    }

    static void promise16_behind11Comes0(Due due) {
        due.is("a pupil from 11", placeBehindOneHour(PUPIL, 1, 11), 0);
        due.is("a pupil from 10", placeBehindOneHour(PUPIL, 1, 10), 11);
        due.is("a bishop from 11", placeBehindOneHour(BISHOP, 1, 11), 1);
        due.is("a bishop from 10", placeBehindOneHour(BISHOP, 1, 10), 0);
    }

    static void promise16_before0Comes11(Due due) {
        due.is("a dean from 0", placeBehindOneHour(DEAN, 1, 0), 11);
        due.is("a dean from 1", placeBehindOneHour(DEAN, 1, 1), 0);
        PicturePegs x = one(DEAN, 5);
        x.hours(60);
        due.is("a dean round five times", x.of(0, 3), 5);
    }

    static void promise16_aStrideOfMoreThanARound(Due due) {
        due.is("a cracker from 0", placeBehindOneHour(CRACKER, 9, 0), 8);
        due.is("a cracker from 11", placeBehindOneHour(CRACKER, 9, 11), 7);
        due.is("a cracker of just a round", placeBehindOneHour(CRACKER, 5, 11), 11);
        due.is("a burglar from 11", placeBehindOneHour(BURGLAR, 9, 11), 9);
    }

    static void promise16_pullOf0(Due due) {
        due.is("a burglar", placeBehindOneHour(BURGLAR, 0, 11), 0);
        due.is("a cracker", placeBehindOneHour(CRACKER, 0, 11), 1);
    }

    static void promise16_aTwinStays(Due due) {
        due.is("a twin", placeBehindOneHour(TWIN, 9, 11), 11);
    }

    static void promise16_bellAtTheFirstHourAndTheTenth(Due due) {
        PicturePegs x = crowd(2, PUPIL, DUCK, 0);
        x.set(BELL, 0);
        due.is("BELL 0, the first", x.hours(1), 1);
        x.know(0, 1, 0);
        due.is("up to the tenth", x.hours(9), 0);
        due.is("the eleventh", x.hours(1), 1);
        PicturePegs y = crowd(2, PUPIL, DUCK, 0);
        y.set(BELL, 9);
        due.is("BELL 9, up to the ninth", y.hours(9), 0);
        due.is("the tenth", y.hours(1), 1);
    }

    static void promise16_placesAsTheyAreBehindTheGoing(Due due) {
        due.is("who comes", two(PUPIL, DUCK, 3, TWIN, DUCK, 4).hours(1), 1);
        due.is("who leaves", two(PUPIL, DUCK, 3, TWIN, DUCK, 3).hours(1), 0);
        due.is("who pass each other", two(PUPIL, DUCK, 3, DEAN, DUCK, 4).hours(1), 0);
        due.is("over the end of the round", two(PUPIL, DUCK, 11, DEAN, DUCK, 1).hours(1), 0);
        PicturePegs x = two(PUPIL, DUCK, 11, DEAN, DUCK, 1);
        x.set(ROOM, 5);
        due.is("over the end of the round, with room", x.hours(1), 1);
    }

    static void promise16_alikeBySamePegOrABlankOne(Due due) {
        due.is("the same", two(TWIN, PEAR, 3, TWIN, PEAR, 3).hours(1), 1);
        due.is("another", two(TWIN, PEAR, 3, TWIN, KITE, 3).hours(1), 0);
        int[][] blanks = {{BLANK, DUCK}, {LADDER, BLANK}, {BLANK, BLANK}};
        for (int[] pegs : blanks) {
            PicturePegs x = two(TWIN, pegs[0], 3, TWIN, pegs[1], 3);
            due.is("a blank one of no weight", x.hours(1), 0);
            x.weigh(BLANK, 30);
            due.is("a blank one", x.hours(1), 1);
        }
    }

    static void promise16_alikeToABlankOneIsNotAlikeToEachOther(Due due) {
        PicturePegs x = two(TWIN, DUCK, 3, TWIN, DRUM, 3);
        x.person(TWIN, BLANK, 0, 3);
        x.weigh(BLANK, 30);
        due.is("hours(60)", x.hours(60), 2);
        due.is("of(0, 4)", x.of(0, 4), 4);
        due.is("of(1, 4)", x.of(1, 4), 4);
        due.is("of(2, 4)", x.of(2, 4), 3);
    }

    static void promise16_leaningBy0GetsToKnowNobody(Due due) {
        PicturePegs x = two(PUPIL, DUCK, 3, PUPIL, DUCK, 3);
        x.weigh(DUCK, 9);
        x.set(ROOM, 9);
        due.is("both", x.hours(1), 0);
        PicturePegs y = two(PUPIL, DUCK, 3, BISHOP, DUCK, 2);
        y.weigh(DUCK, 9);
        due.is("the first", y.hours(1), 0);
        PicturePegs z = two(BISHOP, DUCK, 2, PUPIL, DUCK, 3);
        z.weigh(DUCK, 9);
        due.is("the second", z.hours(1), 0);
        z.weigh(DUCK, 10);
        z.bring(0, 2);
        z.bring(1, 3);
        z.set(BELL, 1);
        due.is("by 1 and 2", z.hours(1), 1);
    }

    static void promise16_leaningBelow0IsNot0(Due due) {
        PicturePegs x = two(BURGLAR, DUCK, 3, BURGLAR, DUCK, 3);
        x.weigh(DUCK, 0);
        x.set(ROOM, 0);
        due.is("both by -1", x.hours(1), 1);
        PicturePegs y = two(BURGLAR, DUCK, 3, BISHOP, DUCK, 3);
        y.weigh(DUCK, 0);
        y.set(ROOM, 1);
        due.is("by -1 and 1, room 1", y.hours(1), 0);
        y.set(ROOM, 2);
        due.is("by -1 and 1, room 2", y.hours(1), 1);
    }

    // A dean leans by 2 more than twice what a pupil does: by 3, 4, .. 11 more.
    static void promise16_differByRoomAtMost(Due due) {
        for (int tenth = 1; tenth <= 9; tenth++) {
            for (int room = 0; room <= 9; room++) {
                PicturePegs x = two(PUPIL, DUCK, 3, DEAN, DUCK, 5);
                PicturePegs y = two(DEAN, DUCK, 5, PUPIL, DUCK, 3);
                x.weigh(DUCK, 10 * tenth);
                y.weigh(DUCK, 10 * tenth + 9);
                x.set(ROOM, room);
                y.set(ROOM, room);
                int known = tenth + 2 <= room ? 1 : 0;
                due.is("room " + room + ", by " + (tenth + 2), x.hours(1), known);
                due.is("room " + room + ", by " + (tenth + 2) + ", the dean first", y.hours(1), known);
            }
        }
    }

    static void promise16_roomOf0(Due due) {
        PicturePegs x = two(TWIN, DUCK, 3, TWIN, DUCK, 3);
        x.set(ROOM, 0);
        due.is("by as much", x.hours(1), 1);
        PicturePegs y = two(TWIN, DUCK, 3, TWIN, BLANK, 3);
        y.set(ROOM, 0);
        y.weigh(BLANK, 40);
        due.is("by 1 more", y.hours(1), 0);
        y.weigh(BLANK, 39);
        due.is("by as much, cut", y.hours(1), 1);
    }

    static void promise16_thoseWhoKnowEachOtherStaySo(Due due) {
        PicturePegs x = crowd(2, TWIN, DUCK, 0);
        x.hours(1);
        x.mind(1, DEAN, KITE);
        due.is("hours(60)", x.hours(60), 1);
    }

    static void promise16_allPairsOfEight(Due due) {
        PicturePegs x = crowd(8, TWIN, DUCK, 11);
        due.is("hours(1)", x.hours(1), 28);
        due.is("hours(60)", x.hours(60), 28);
    }

    static void promise16_asManyHoursAsCallsAllow(Due due) {
        PicturePegs x = one(PUPIL, 11);
        x.person(PUPIL, DUCK, 0, 11);
        for (int i = 0; i < 505; i++) {
            x.hours(60);
        }
        due.is("state(0)", x.state(0), 30300);
        due.is("of(0, 3)", x.of(0, 3), 11);
        x.know(0, 1, 0);
        due.is("meet(0, 1)", x.meet(0, 1), 5);
    }

    // ---- promise 17 ----

    static void promise17_anyNumberOfAnInt(Due due) {
        PicturePegs x = new PicturePegs();
        int[] seeds = {0, -1, Integer.MAX_VALUE, Integer.MIN_VALUE, 65536, -65536, 1};
        int was = 1;
        for (int seed : seeds) {
            due.is("seed(" + seed + ")", x.seed(seed), was);
            was = seed;
        }
    }

    static void promise17_answersBelow0AreNoRefusals(Due due) {
        PicturePegs x = new PicturePegs();
        x.seed(BAD);
        due.is("seed(7)", x.seed(7), -1);
        due.is("seed(8)", x.seed(8), 7);
    }

    // ---- promise 18 ----

    static void promise18_noDrawIfNobodyIsThere(Due due) {
        PicturePegs x = new PicturePegs();
        due.is("hour()", x.hour(), 0);
        due.is("z", x.seed(1), 1);
        due.is("HOUR", x.state(0), 1);
    }

    static void promise18_oneAloneIsDrawnToo(Due due) {
        PicturePegs x = one(TWIN, 3);
        x.set(CHANCE, 0);
        x.hour();
        due.is("z", x.seed(1), next(next(1)));
    }

    static void promise18_zWrapsAround(Due due) {
        int[] seeds = {Integer.MAX_VALUE, Integer.MIN_VALUE, -1, 0, 1, 2, 1103515245, -1103515245};
        for (int seed : seeds) {
            PicturePegs x = one(TWIN, 3);
            x.set(CHANCE, 0);
            x.seed(seed);
            x.hour();
            due.is("z from " + seed, x.seed(0), next(next(seed)));
        }
    }

    static void promise18_whatIsDrawnIsNeverBelow0(Due due) {
        for (int seed = 0; seed < 200; seed++) {
            PicturePegs x = crowd(8, TWIN, DUCK, 3);
            x.set(CHANCE, 99);
            x.seed(seed);
            x.hour();
            int z1 = next(seed);
            int z2 = next(z1);
            int z3 = next(z2);
            boolean moved = drawn(z2) % 100 < 99;
            for (int person = 0; person < 8; person++) {
                int place = moved && person == drawn(z1) % 8 ? drawn(z3) % 12 : 3;
                due.is("of(" + person + ", 3) from " + seed, x.of(person, 3), place);
            }
            due.is("z from " + seed, x.seed(0), moved ? z3 : z2);
        }
    }

    static void promise18_firstAndLastOneOfEach(Due due) {
        for (int people = 1; people <= 8; people++) {
            for (int chosen = 0; chosen < people; chosen++) {
                PicturePegs x = crowd(people, TWIN, DUCK, 3);
                int seed = seedWhoseDrawLeaves(1, people, chosen);
                x.set(CHANCE, 99);
                x.seed(seed);
                int place = drawn(next(next(next(seed)))) % 12;
                boolean moved = drawn(next(next(seed))) % 100 < 99;
                x.hour();
                due.is("of(" + chosen + ", 3) of " + people, x.of(chosen, 3), moved ? place : 3);
            }
        }
    }

    static void promise18_chanceOf0(Due due) {
        int seed = seedWhoseDrawLeaves(2, 100, 0);
        PicturePegs x = one(TWIN, 3);
        x.set(CHANCE, 0);
        x.seed(seed);
        x.hour();
        due.is("two draws", x.seed(seed), next(next(seed)));
        due.is("of(0, 3)", x.of(0, 3), 3);
        x.set(CHANCE, 1);
        x.hour();
        due.is("CHANCE 1: three draws", x.seed(seed), next(next(next(seed))));
        due.is("of(0, 3)", x.of(0, 3), drawn(next(next(next(seed)))) % 12);
    }

    static void promise18_chanceOf99(Due due) {
        int seed = seedWhoseDrawLeaves(2, 100, 99);
        PicturePegs x = one(TWIN, 3);
        x.set(CHANCE, 99);
        x.seed(seed);
        x.hour();
        due.is("99 is not below: two draws", x.seed(0), next(next(seed)));
        int other = seedWhoseDrawLeaves(2, 100, 98);
        x.seed(other);
        x.hour();
        due.is("98 is below: three draws", x.seed(0), next(next(next(other))));
        due.is("of(0, 3)", x.of(0, 3), drawn(next(next(next(other)))) % 12);
    }

    static void promise18_firstAndLastPlaceByTheThirdDraw(Due due) {
        for (int place = 0; place < 12; place++) {
            for (int from = 0; from <= 11; from += 11) {
                int seed = seedWhoseDrawLeaves(3, 12, place);
                PicturePegs x = one(TWIN, from);
                x.set(CHANCE, 99);
                x.seed(seed);
                x.hour();
                boolean moved = drawn(next(next(seed))) % 100 < 99;
                due.is("of(0, 3)", x.of(0, 3), moved ? place : from);
            }
        }
    }

    static void promise18_thenAnHour(Due due) {
        int seed = seedWhoseDrawLeaves(3, 12, 11);
        PicturePegs x = one(PUPIL, 3);
        x.set(CHANCE, 99);
        x.seed(seed);
        due.holds("such a seed moves", drawn(next(next(seed))) % 100 < 99);
        due.is("hour()", x.hour(), 0);
        due.is("from 11 on to 0", x.of(0, 3), 0);
        due.is("state(0)", x.state(0), 1);
    }

    // ---- promise 19 ----

    static void promise19_nTooSmallIsBad(Due due) {
        for (int n : tooSmall(1)) {
            refused(due, "found(" + n + ")", BAD, x -> x.found(n));
        }
    }

    static void promise19_nTooLargeIsBad(Due due) {
        for (int n : tooLarge(30)) {
            refused(due, "found(" + n + ")", BAD, x -> x.found(n));
        }
    }

    static void promise19_foundOfNobody(Due due) {
        PicturePegs x = new PicturePegs();
        due.is("found(1)", x.found(1), 0);
        due.is("found(30)", x.found(30), 0);
        due.is("z", x.seed(1), 1);
    }

    static void promise19_oneHourAndThirty(Due due) {
        PicturePegs x = crowd(2, TWIN, DUCK, 4);
        x.bring(1, 8);
        x.set(CHANCE, 99);
        int last = 0;
        for (int seed = 0; seed < 12; seed++) {
            int z = seed;
            int found = 0;
            for (int n = 1; n <= 30; n++) {
                int one = drawn(next(z)) % 2;
                z = next(next(z));
                if (drawn(z) % 100 < 99) {
                    z = next(z);
                    found += drawn(z) % 12 == (one == 0 ? 8 : 4) ? 1 : 0;
                }
                if (n == 1 || n == 29 || n == 30) {
                    x.seed(seed);
                    due.is("found(" + n + ") from " + seed, x.found(n), found);
                }
            }
            last += found;
        }
        due.holds("some are found", last > 0);
    }

    static void promise19_nothingChangesZNeither(Due due) {
        changesNothing(due, "found(1)", x -> x.found(1));
        changesNothing(due, "found(30)", x -> x.found(30));
    }

    static void promise19_notMoreThanBehindAnHour(Due due) {
        PicturePegs all = crowd(8, TWIN, DUCK, 4);
        all.hours(1);
        due.is("all know each other", all.found(30), 0);
        PicturePegs then = crowd(8, TWIN, DUCK, 4);
        then.set(CHANCE, 99);
        due.is("all do behind an hour", then.found(30), 0);
        PicturePegs one = one(TWIN, 4);
        due.is("one alone", one.found(30), 0);
    }

    static void promise19_chanceOf0FindsNone(Due due) {
        PicturePegs x = crowd(2, TWIN, DUCK, 4);
        x.bring(1, 8);
        x.set(CHANCE, 0);
        due.is("found(30)", x.found(30), 0);
    }

    // ---- promise 20 ----

    static void promise20_noSuchWhatIsBad(Due due) {
        for (int what : outside(0, 5)) {
            refused(due, "state(" + what + ")", BAD, x -> x.state(what));
        }
    }

    static void promise20_stateOfNobody(Due due) {
        PicturePegs x = new PicturePegs();
        for (int what = 0; what <= 4; what++) {
            due.is("state(" + what + ")", x.state(what), 0);
        }
    }

    static void promise20_hourOf0AndOn(Due due) {
        PicturePegs x = new PicturePegs();
        for (int hour = 0; hour < 25; hour++) {
            due.is("state(0)", x.state(0), hour);
            x.hours(1);
        }
    }

    static void promise20_pairsFrom0To28(Due due) {
        PicturePegs x = crowd(8, PUPIL, DUCK, 0);
        int pairs = 0;
        for (int one = 0; one < 8; one++) {
            for (int other = one + 1; other < 8; other++) {
                due.is("state(1)", x.state(1), pairs);
                x.know(other, one, 1);
                pairs++;
            }
        }
        due.is("state(1)", x.state(1), 28);
    }

    static void promise20_allAndNoneKnowNobody(Due due) {
        PicturePegs x = crowd(8, PUPIL, DUCK, 0);
        due.is("state(2), all", x.state(2), 255);
        x.know(0, 7, 1);
        due.is("state(2), but two", x.state(2), 126);
        for (int other = 1; other < 7; other++) {
            x.know(0, other, 1);
        }
        due.is("state(2), none", x.state(2), 0);
    }

    static void promise20_firstAndLastPlace(Due due) {
        PicturePegs x = crowd(8, PUPIL, DUCK, 11);
        due.is("state(3), all at 11", x.state(3), 2048);
        x.bring(4, 0);
        due.is("state(3), one at 0", x.state(3), 2049);
        for (int person = 0; person < 8; person++) {
            x.bring(person, person + 1);
        }
        due.is("state(3), eight places", x.state(3), 510);
    }

    static void promise20_circlesFrom1To8(Due due) {
        PicturePegs x = crowd(8, PUPIL, DUCK, 0);
        int[] chain = {3, 7, 0, 6, 1, 5, 2, 4};
        for (int i = 0; i + 1 < 8; i++) {
            due.is("state(4)", x.state(4), 8 - i);
            x.know(chain[i], chain[i + 1], 1);
        }
        due.is("state(4), one of all", x.state(4), 1);
        x.know(3, 4, 1);
        due.is("state(4), closed", x.state(4), 1);
    }

    static void promise20_weightFrom0To594(Due due) {
        PicturePegs x = new PicturePegs();
        for (int peg = 0; peg < 6; peg++) {
            x.weigh(peg, 0);
        }
        due.is("state(5), none", x.state(5), 0);
        for (int peg = 0; peg < 6; peg++) {
            x.weigh(peg, 99);
        }
        due.is("state(5), most", x.state(5), 594);
    }
}
