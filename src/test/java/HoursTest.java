/** Promises 16 to 20: hours, hours by draws, the state. */
final class HoursTest {
    private static final Due DUE = new Due("HoursTest");
    private static final int BAD = PicturePegs.BAD;

    public static void main(String[] args) {
        plainHours();
        whoKnowsWhom();
        draws();
        founds();
        states();
        DUE.end();
    }

    private static void plainHours() {
        PicturePegs x = new PicturePegs();
        DUE.is("16 hours(0)", x.hours(0), BAD);
        DUE.is("16 hours(61)", x.hours(61), BAD);
        DUE.is("16 hours(-1)", x.hours(-1), BAD);
        DUE.is("16 state(0)", x.state(0), 0);
        DUE.is("16 hours(60)", x.hours(60), 0);
        DUE.is("16 hours(1)", x.hours(1), 0);
        DUE.is("16 state(0)", x.state(0), 61);
        // a dean goes back over place 0, a pupil forward over 11
        PicturePegs y = new PicturePegs();
        y.person(3, 0, 0, 1);
        y.person(0, 0, 0, 10);
        y.hours(2);
        DUE.is("16 dean", y.of(0, 3), 11);
        DUE.is("16 pupil", y.of(1, 3), 0);
    }

    private static int pairOf(int[] one, int[] other, int room, int weight) {
        PicturePegs x = new PicturePegs();
        x.person(one[0], one[1], one[2], one[3]);
        x.person(other[0], other[1], other[2], other[3]);
        x.set(0, 0);
        x.set(2, room);
        x.weigh(0, weight);
        x.weigh(1, weight);
        x.weigh(5, 30);
        return x.hours(1);
    }

    private static void whoKnowsWhom() {
        int[] pupil = {0, 0, 0, 3};
        DUE.is("16 alike", pairOf(pupil, new int[] {0, 0, 0, 3}, 0, 30), 1);
        DUE.is("16 another place", pairOf(pupil, new int[] {0, 0, 0, 4}, 0, 30), 0);
        DUE.is("16 another peg", pairOf(pupil, new int[] {0, 1, 0, 3}, 0, 30), 0);
        DUE.is("16 a blank one", pairOf(pupil, new int[] {0, 5, 0, 3}, 0, 30), 1);
        DUE.is("16 a blank one first", pairOf(new int[] {0, 5, 0, 3}, pupil, 0, 30), 1);
        DUE.is("16 places as they are then", pairOf(pupil, new int[] {1, 0, 0, 2}, 9, 30), 1);
        DUE.is("16 room 0, by 1", pairOf(pupil, new int[] {1, 0, 0, 2}, 0, 30), 0);
        DUE.is("16 room 1, by 1", pairOf(pupil, new int[] {1, 0, 0, 2}, 1, 30), 1);
        // a dean leans 8 where a pupil leans 3
        DUE.is("16 room 4, by 5", pairOf(pupil, new int[] {3, 0, 0, 5}, 4, 30), 0);
        DUE.is("16 room 5, by 5", pairOf(pupil, new int[] {3, 0, 0, 5}, 5, 30), 1);
        DUE.is("16 room 5, the dean first", pairOf(new int[] {3, 0, 0, 5}, pupil, 5, 30), 1);
        DUE.is("16 both 0", pairOf(pupil, new int[] {0, 0, 0, 3}, 9, 9), 0);
        DUE.is("16 one 0", pairOf(pupil, new int[] {1, 0, 0, 2}, 9, 9), 0);
        DUE.is("16 the other 0", pairOf(new int[] {1, 0, 0, 2}, pupil, 9, 9), 0);
        // burglars lean -1 where the weight is small: not 0
        DUE.is("16 below 0", pairOf(new int[] {2, 0, 0, 3}, new int[] {2, 0, 0, 3}, 0, 9), 1);
        // -1 and 1 differ by 2
        DUE.is("16 room 1, -1 and 1", pairOf(new int[] {2, 0, 0, 3}, new int[] {1, 0, 0, 3}, 1, 9), 0);
        DUE.is("16 room 2, -1 and 1", pairOf(new int[] {2, 0, 0, 3}, new int[] {1, 0, 0, 3}, 2, 9), 1);
        PicturePegs x = new PicturePegs();
        for (int i = 0; i < 8; i++) {
            x.person(5, 0, 0, 4);
        }
        DUE.is("16 all pairs", x.hours(1), 28);
        x.mind(0, 0, 3);
        DUE.is("16 those that know each other stay so", x.hours(3), 28);
    }

    private static int next(int z) {
        return z * 1103515245 + 12345;
    }

    private static void draws() {
        PicturePegs nobody = new PicturePegs();
        DUE.is("18 hour() of nobody", nobody.hour(), 0);
        DUE.is("18 no draw", nobody.seed(3), 1);
        DUE.is("18 but an hour", nobody.state(0), 1);
        PicturePegs x = new PicturePegs();
        for (int i = 0; i < 5; i++) {
            x.person(5, i, 0, i);
        }
        DUE.is("17 seed", x.seed(Integer.MIN_VALUE), 1);
        DUE.is("17 seed", x.seed(-987654), Integer.MIN_VALUE);
        int z = -987654;
        int[] at = {0, 1, 2, 3, 4};
        x.set(3, 50);
        int moved = 0;
        for (int i = 0; i < 40; i++) {
            z = next(z);
            int one = (z >>> 16) % 5;
            z = next(z);
            if ((z >>> 16) % 100 < 50) {
                z = next(z);
                at[one] = (z >>> 16) % 12;
                moved++;
            }
            DUE.is("18 hour()", x.hour(), 0);
            for (int p = 0; p < 5; p++) {
                DUE.is("18 of(" + p + ", 3)", x.of(p, 3), at[p]);
            }
        }
        DUE.holds("18 some moved, some not", moved > 5 && moved < 35);
        DUE.is("18 state(0)", x.state(0), 40);
        DUE.is("17 z goes on", x.seed(0), z);
        x.set(3, 0);
        x.hour();
        DUE.is("18 chance 0 takes two draws", x.seed(0), next(next(0)));
        chanceIsBelow();
    }

    // One alone is drawn too; what the second draw leaves by 100 is tried as CHANCE, and 1 more.
    private static void chanceIsBelow() {
        int left = (next(next(5)) >>> 16) % 100;
        int place = (next(next(next(5))) >>> 16) % 12;
        DUE.holds("18 a seed whose draws tell", left < 99 && place != 7);
        PicturePegs x = new PicturePegs();
        x.person(5, 0, 0, 7);
        x.seed(5);
        x.set(3, left);
        x.hour();
        DUE.is("18 not below CHANCE", x.of(0, 3), 7);
        DUE.is("18 two draws", x.seed(5), next(next(5)));
        x.set(3, left + 1);
        x.hour();
        DUE.is("18 below CHANCE", x.of(0, 3), place);
        DUE.is("18 three draws", x.seed(5), next(next(next(5))));
    }

    private static void founds() {
        PicturePegs x = new PicturePegs();
        DUE.is("19 found(0)", x.found(0), BAD);
        DUE.is("19 found(31)", x.found(31), BAD);
        DUE.is("19 found(-1)", x.found(-1), BAD);
        DUE.is("19 of nobody", x.found(30), 0);
        x.person(5, 0, 0, 4);
        x.person(5, 0, 0, 8);
        x.set(3, 99);
        x.seed(42);
        int z = 42;
        int due = 0;
        for (int i = 0; i < 30; i++) {
            z = next(z);
            int one = (z >>> 16) % 2;
            z = next(z);
            int place = one == 0 ? 4 : 8;
            if ((z >>> 16) % 100 < 99) {
                z = next(z);
                place = (z >>> 16) % 12;
            }
            if (place == (one == 0 ? 8 : 4)) {
                due++;
            }
        }
        DUE.is("19 found(30)", x.found(30), due);
        foundOneByOne(x);
        DUE.holds("19 some are found", due > 0);
        DUE.is("19 again the same", x.found(30), due);
        DUE.is("19 nothing changed", x.of(0, 3), 4);
        DUE.is("19 nothing changed", x.state(0), 0);
        DUE.is("19 z neither", x.seed(42), 42);
        x.bring(1, 4);
        DUE.is("19 none is more than behind an hour", x.found(30), 0);
    }

    // With so sure a chance each draw of three goes on from the one before: n tells how many.
    private static void foundOneByOne(PicturePegs x) {
        int z = 42;
        int due = 0;
        for (int n = 1; n <= 30; n++) {
            PicturePegs y = new PicturePegs();
            y.person(5, 0, 0, 4);
            y.person(5, 0, 0, 8);
            y.set(3, 99);
            y.seed(z);
            due += y.hour();
            z = y.seed(0);
            DUE.is("19 found(" + n + ")", x.found(n), due);
        }
    }

    private static void states() {
        PicturePegs single = new PicturePegs();
        for (int i = 0; i < 4; i++) {
            DUE.is("20 circles of one", single.state(4), i);
            single.person(0, 0, 0, i);
        }
        PicturePegs x = new PicturePegs();
        x.person(0, 0, 0, 0);
        x.person(0, 0, 0, 11);
        x.person(0, 0, 0, 11);
        x.person(0, 0, 0, 3);
        x.person(0, 0, 0, 4);
        x.know(0, 3, 1);
        x.know(3, 2, 1);
        DUE.is("20 state(0)", x.state(0), 0);
        DUE.is("20 state(1)", x.state(1), 2);
        DUE.is("20 state(2)", x.state(2), 2 + 16);
        DUE.is("20 state(3)", x.state(3), 1 + 2048 + 8 + 16);
        DUE.is("20 state(4)", x.state(4), 3);
        x.know(1, 4, 1);
        DUE.is("20 state(4)", x.state(4), 2);
        DUE.is("20 state(5)", x.state(5), 150);
        x.weigh(5, 7);
        x.weigh(0, 0);
        DUE.is("20 state(5)", x.state(5), 127);
        DUE.is("20 state(6)", x.state(6), BAD);
        DUE.is("20 state(-1)", x.state(-1), BAD);
    }
}
