/** Promises 21 to 32: what is tried, circles, what tells apart, what fits, odds. */
final class TriedTest {
    private static final Due DUE = new Due("TriedTest");
    private static final int BAD = PicturePegs.BAD, NONE = PicturePegs.NONE;

    public static void main(String[] args) {
        aheads();
        meets();
        gathers();
        alones();
        choices();
        circles();
        aparts();
        fitting();
        fractions();
        DUE.end();
    }

    private static PicturePegs twoTwins() {
        PicturePegs x = new PicturePegs();
        x.person(5, 0, 0, 4);
        x.person(5, 0, 0, 4);
        return x;
    }

    private static void aheads() {
        PicturePegs x = twoTwins();
        x.person(1, 0, 0, 1);
        DUE.is("21 ahead(2, 0, 0)", x.ahead(2, 0, 0), 1);
        DUE.is("21 ahead(2, 7, 0)", x.ahead(2, 7, 0), 3);
        DUE.is("21 ahead(2, 60, 0)", x.ahead(2, 60, 0), 1);
        DUE.is("21 ahead(0, 0, 1)", x.ahead(0, 0, 1), 0);
        DUE.is("21 ahead(0, 1, 1)", x.ahead(0, 1, 1), 2);
        DUE.is("21 nothing changes", x.state(0), 0);
        DUE.is("21 nothing changes", x.state(1), 0);
        DUE.is("21 n 61", x.ahead(0, 61, 0), BAD);
        DUE.is("21 n -1", x.ahead(0, -1, 0), BAD);
        DUE.is("21 what 2", x.ahead(0, 0, 2), BAD);
        DUE.is("21 what -1", x.ahead(0, 0, -1), BAD);
        DUE.is("21 no such one", x.ahead(3, 0, 0), BAD);
        DUE.is("21 no such one", x.ahead(-1, 0, 0), BAD);
    }

    private static void meets() {
        PicturePegs x = twoTwins();
        DUE.is("22 meet", x.meet(0, 1), 1);
        x.know(0, 1, 1);
        DUE.is("22 meet of those that do", x.meet(1, 0), 0);
        x.know(0, 1, 0);
        x.bring(1, 5);
        DUE.is("22 not by then", x.meet(0, 1), NONE);
        DUE.is("22 one and the same", x.meet(1, 1), BAD);
        DUE.is("22 no such one", x.meet(0, 2), BAD);
        DUE.is("22 no such one", x.meet(2, 0), BAD);
        DUE.is("22 no such one", x.meet(-1, 0), BAD);
        // pupils lean at the bell alone; behind hour 9 that is the tenth
        PicturePegs y = new PicturePegs();
        y.person(0, 0, 0, 0);
        y.person(0, 0, 0, 0);
        y.set(0, 9);
        DUE.is("22 at the bell", y.meet(0, 1), 10);
        y.hours(3);
        DUE.is("22 from now on", y.meet(0, 1), 7);
        // a pupil comes to a twin's place behind 60 hours, and not before, at a bell
        PicturePegs z = new PicturePegs();
        z.person(5, 0, 0, 0);
        z.person(0, 0, 0, 0);
        z.set(0, 9);
        DUE.is("22 just by then", z.meet(0, 1), 60);
        z.hours(60);
        z.know(0, 1, 0);
        z.bring(1, 11);
        DUE.is("22 one too late", z.meet(0, 1), NONE);
        DUE.is("22 nothing changes", z.state(1), 0);
    }

    private static void gathers() {
        PicturePegs x = new PicturePegs();
        DUE.is("23 nobody", x.gather(), 0);
        x.person(5, 0, 0, 0);
        DUE.is("23 one", x.gather(), 0);
        x.person(0, 0, 0, 1);
        DUE.is("23 eleven", x.gather(), 11);
        x.person(3, 0, 0, 11);
        DUE.is("23 three of them", x.gather(), 11);
        x.person(5, 0, 0, 1);
        DUE.is("23 never", x.gather(), NONE);
        DUE.is("23 nothing changes", x.state(0), 0);
    }

    private static void alones() {
        PicturePegs x = new PicturePegs();
        x.person(5, 0, 0, 0);
        DUE.is("24 alone at all", x.alone(0), 0);
        x.person(5, 0, 0, 0);
        DUE.is("24 never", x.alone(0), NONE);
        x.mind(1, 0, 0);
        DUE.is("24 behind one", x.alone(0), 1);
        x.person(3, 0, 0, 1);
        DUE.is("24 behind two", x.alone(0), 2);
        DUE.is("24 no such one", x.alone(3), BAD);
        DUE.is("24 no such one", x.alone(-1), BAD);
    }

    private static void choices() {
        PicturePegs x = new PicturePegs();
        x.person(5, 0, 0, 0);
        x.person(5, 3, 0, 0);
        x.person(5, 3, 0, 0);
        x.person(5, 3, 0, 7);
        x.person(5, 1, 0, 7);
        x.weigh(5, 30);
        DUE.is("25 the blank one knows all", x.pegFor(4, 1), 3);
        x.person(5, 2, 0, 7);
        DUE.is("25 the blank one knows more", x.pegFor(4, 1), 5);
        DUE.is("25 the kite", x.pegFor(0, 1), 3);
        x.weigh(3, 0);
        DUE.is("25 of several the least", x.pegFor(1, 1), 0);
        DUE.is("25 nothing changes", x.of(0, 1), 0);
        x.weigh(3, 30);
        DUE.is("26 a twin stays", x.kindFor(1, 1), 5);
        DUE.is("27 two kites are at 0", x.placeFor(3, 1), 0);
        DUE.is("27 of several the least", x.placeFor(0, 20), 0);
        DUE.is("27 nothing changes", x.of(3, 3), 7);
        x.know(1, 3, 1);
        DUE.is("27 one knows already", x.placeFor(1, 1), 0);
        int[][] wrong = {{6, 1}, {-1, 1}, {0, 0}, {0, 21}, {0, -1}};
        for (int[] w : wrong) {
            DUE.is("25 BAD", x.pegFor(w[0], w[1]), BAD);
            DUE.is("26 BAD", x.kindFor(w[0], w[1]), BAD);
            DUE.is("27 BAD", x.placeFor(w[0], w[1]), BAD);
        }
        // bishops lean always and stride 2: from 5 back is 3 behind one hour
        PicturePegs y = new PicturePegs();
        y.person(5, 0, 0, 5);
        y.person(1, 0, 0, 9);
        DUE.is("27 where it comes from", y.placeFor(1, 1), 3);
        DUE.is("27 within two", y.placeFor(1, 2), 1);
        DUE.is("26 at its place it is a twin", y.bring(1, 5), 9);
        DUE.is("26 kindFor", y.kindFor(1, 1), 5);
        y.bring(1, 3);
        DUE.is("26 kindFor", y.kindFor(1, 1), 1);
    }

    private static void circles() {
        PicturePegs x = new PicturePegs();
        for (int i = 0; i < 8; i++) {
            x.person(0, 0, 0, 0);
        }
        int[] order = {7, 0, 6, 1, 5, 2, 4};
        for (int i = 0; i + 1 < order.length; i++) {
            x.know(order[i], order[i + 1], 1);
        }
        for (int one : order) {
            DUE.is("28 circle", x.circle(one), 255 - 8);
        }
        DUE.is("28 one alone", x.circle(3), 8);
        x.know(1, 5, 0);
        DUE.is("28 cut", x.circle(7), 128 + 1 + 64 + 2);
        DUE.is("28 cut", x.circle(4), 32 + 4 + 16);
        DUE.is("28 no such one", x.circle(8), BAD);
        DUE.is("28 no such one", x.circle(-1), BAD);
    }

    private static void aparts() {
        PicturePegs x = new PicturePegs();
        DUE.is("29 nobody", x.apart(), 0);
        x.person(0, 0, 0, 0);
        DUE.is("29 one", x.apart(), 0);
        x.person(0, 0, 0, 0);
        DUE.is("29 by no set", x.apart(), NONE);
        x.mind(1, 1, 0);
        DUE.is("29 by any rest", x.apart(), 1);
        // 30 and 60 of weight: pupils differ at the bell alone
        x.mind(1, 0, 1);
        x.weigh(1, 60);
        DUE.is("29 by the bell", x.apart(), 16);
        x.set(0, 9);
        DUE.is("29 by the bell", x.apart(), 512);
        // a twin of 30 is as a pupil at the bell, else not; the others differ at the bell alone
        x.person(5, 0, 0, 0);
        DUE.is("29 by two", x.apart(), 513);
        x.set(0, 0);
        DUE.is("29 by two", x.apart(), 3);
    }

    private static void fitting() {
        PicturePegs x = twoTwins();
        x.sheet(0, 2, 2);
        DUE.is("30 knows none", x.fits(0, 0, 0), 5);
        DUE.is("30 the least of these", x.fits(0, 0, 1), 1);
        x.weigh(5, 30);
        DUE.is("30 the blank one knows", x.fits(0, 0, 0), 4);
        x.put(0, 0, -1);
        x.put(0, 1, 1);
        DUE.is("30 knows one", x.fits(0, 0, 0), 2);
        DUE.is("30 the duck", x.fits(0, 0, 1), 0);
        x.put(0, 1, 2);
        DUE.is("30 none", x.fits(0, 0, 0), 0);
        DUE.is("30 none", x.fits(0, 0, 1), NONE);
        x.put(0, 0, 0);
        x.put(0, 1, -1);
        DUE.is("30 the first number tells too", x.fits(0, 0, 0), 4);
        x.put(0, 1, -2);
        DUE.is("30 -2 is no number of others", x.fits(0, 0, 0), 0);
        x.sheet(1, 0, 0);
        DUE.is("30 no numbers", x.fits(1, 1, 0), 6);
        DUE.is("30 no numbers", x.fits(1, 1, 1), 0);
        x.sheet(1, 3, 40);
        DUE.is("30 longs, forty", x.fits(1, 1, 0), 4);
        DUE.is("30 missing", x.fits(2, 1, 0), -11);
        DUE.is("30 no such sheet", x.fits(4, 1, 0), BAD);
        DUE.is("30 no such sheet", x.fits(-1, 1, 0), BAD);
        DUE.is("30 no such one", x.fits(2, 2, 0), BAD);
        DUE.is("30 no such one", x.fits(0, -1, 0), BAD);
        DUE.is("30 no such what", x.fits(2, 1, 2), BAD);
        DUE.is("30 no such what", x.fits(0, 1, -1), BAD);
        DUE.is("30 nothing changes", x.of(0, 1), 0);
        DUE.is("30 nothing changes", x.state(1), 0);
    }

    private static void fractions() {
        PicturePegs x = new PicturePegs();
        DUE.is("31 odds(2, 1)", x.odds(2, 1, 0), 8);
        DUE.is("31 odds(2, 1)", x.odds(2, 1, 1), 25);
        x.set(3, 99);
        DUE.is("31 odds(8, 8)", x.odds(8, 8, 0), 9227446944279201L);
        DUE.is("31 odds(8, 8)", x.odds(8, 8, 1), 10000000000000000L);
        DUE.is("31 odds(8, 0)", x.odds(8, 0, 0), 1);
        DUE.is("31 odds(8, 0)", x.odds(8, 0, 1), 10000000000000000L);
        // 70 * 99^4 / 100^8
        DUE.is("31 odds(8, 4)", x.odds(8, 4, 0), 7L * 99 * 99 * 99 * 99);
        DUE.is("31 odds(8, 4)", x.odds(8, 4, 1), 1000000000000000L);
        x.set(3, 0);
        DUE.is("31 sure", x.odds(8, 0, 0), 1);
        DUE.is("31 sure", x.odds(8, 0, 1), 1);
        DUE.is("31 never", x.odds(8, 5, 0), 0);
        DUE.is("31 never", x.odds(8, 5, 1), 1);
        int[][] wrong = {{-1, 0, 0}, {9, 0, 0}, {3, 4, 0}, {3, -1, 0}, {3, 1, 2}, {3, 1, -1}};
        for (int[] w : wrong) {
            DUE.is("31 BAD", x.odds(w[0], w[1], w[2]), BAD);
        }
        x.set(3, 35);
        DUE.is("32 hope(8)", x.hope(8, 0), 14);
        DUE.is("32 hope(8)", x.hope(8, 1), 5);
        DUE.is("32 hope(99)", x.hope(99, 0), 693);
        DUE.is("32 hope(99)", x.hope(99, 1), 20);
        DUE.is("32 hope(0)", x.hope(0, 0), 0);
        DUE.is("32 hope(0)", x.hope(0, 1), 1);
        DUE.is("32 n 100", x.hope(100, 0), BAD);
        DUE.is("32 n -1", x.hope(-1, 0), BAD);
        DUE.is("32 part 2", x.hope(1, 2), BAD);
        DUE.is("32 part -1", x.hope(1, -1), BAD);
    }
}
