/** Promises 4 to 15: laws, people, pegs. */
final class PeopleTest {
    private static final Due DUE = new Due("PeopleTest");
    private static final int BAD = PicturePegs.BAD;

    public static void main(String[] args) {
        laws();
        persons();
        leansOfKinds();
        stridesOfKinds();
        changes();
        knowing();
        pegs();
        DUE.end();
    }

    private static void laws() {
        PicturePegs x = new PicturePegs();
        int[] first = {4, 1, 2, 20};
        int[] most = {9, 9, 9, 99};
        for (int law = 0; law < 4; law++) {
            DUE.is("4 set above", x.set(law, most[law] + 1), BAD);
            DUE.is("4 set below", x.set(law, -1), BAD);
            DUE.is("5 lawOf", x.lawOf(law), first[law]);
            DUE.is("4 set most", x.set(law, most[law]), first[law]);
            DUE.is("5 lawOf", x.lawOf(law), most[law]);
            DUE.is("4 set least", x.set(law, 0), most[law]);
            DUE.is("5 lawOf", x.lawOf(law), 0);
        }
        int[] wrong = {-1, 4, Integer.MIN_VALUE, Integer.MAX_VALUE};
        for (int law : wrong) {
            DUE.is("4 set(" + law + ", 0)", x.set(law, 0), BAD);
            DUE.is("5 lawOf(" + law + ")", x.lawOf(law), BAD);
        }
    }

    private static void persons() {
        PicturePegs x = new PicturePegs();
        int[][] wrong = {{6, 0, 0, 0}, {-1, 0, 0, 0}, {0, 6, 0, 0}, {0, -1, 0, 0}, {0, 0, 100, 0},
            {0, 0, -1, 0}, {0, 0, 0, 12}, {0, 0, 0, -1}};
        for (int[] w : wrong) {
            DUE.is("6 person, BAD", x.person(w[0], w[1], w[2], w[3]), BAD);
        }
        DUE.is("6 many(0)", x.many(0), 0);
        DUE.is("7 of(0, 0) of nobody", x.of(0, 0), BAD);
        for (int i = 0; i < 8; i++) {
            DUE.is("6 person", x.person(i % 6, 5 - i % 6, i == 0 ? 99 : i, i == 1 ? 11 : 7), i);
        }
        DUE.is("6 a ninth", x.person(0, 0, 0, 0), PicturePegs.FULL);
        DUE.is("6 BAD before FULL", x.person(0, 0, 0, 12), BAD);
        DUE.is("7 of(0, 2)", x.of(0, 2), 99);
        DUE.is("7 of(1, 3)", x.of(1, 3), 11);
        DUE.is("7 of(7, 0)", x.of(7, 0), 1);
        DUE.is("7 of(7, 1)", x.of(7, 1), 4);
        DUE.is("7 of(7, 2)", x.of(7, 2), 7);
        DUE.is("7 of(7, 3)", x.of(7, 3), 7);
        DUE.is("7 of(7, 4)", x.of(7, 4), 0);
        DUE.is("7 of(7, 5)", x.of(7, 5), 6);
        DUE.is("7 of(1, 5)", x.of(1, 5), 0);
        DUE.is("7 of(8, 0)", x.of(8, 0), BAD);
        DUE.is("7 of(-1, 0)", x.of(-1, 0), BAD);
        DUE.is("7 of(0, 6)", x.of(0, 6), BAD);
        DUE.is("7 of(0, -1)", x.of(0, -1), BAD);
    }

    private static void leansOfKinds() {
        PicturePegs x = new PicturePegs();
        for (int kind = 0; kind < 6; kind++) {
            x.person(kind, 2, 89, 0);
        }
        x.weigh(2, 59);
        x.set(0, 7);
        // a tenth of the weight is 5, a tenth of the age is 8
        int[] atBell = {5, 6, 4, 12, 12, 5};
        int[] else_ = {0, 1, -1, 2, 7, 5};
        for (int kind = 0; kind < 6; kind++) {
            DUE.is("8 leans at 7, kind " + kind, x.leans(kind, 7), 1000 + atBell[kind]);
            DUE.is("8 leans at 9997, kind " + kind, x.leans(kind, 9997), 1000 + atBell[kind]);
            DUE.is("8 leans at 0, kind " + kind, x.leans(kind, 0), 1000 + else_[kind]);
            DUE.is("8 leans at 9999, kind " + kind, x.leans(kind, 9999), 1000 + else_[kind]);
        }
        x.weigh(2, 9);
        DUE.is("8 a tenth of 9", x.leans(0, 7), 1000);
        DUE.is("8 below 0", x.leans(2, 7), 999);
        int[][] tenths = {{0, 0}, {9, 0}, {10, 1}, {19, 1}, {90, 9}, {99, 9}};
        for (int[] t : tenths) {
            x.age(4, t[0]);
            DUE.is("8 a cracker of age " + t[0], x.leans(4, 0), 999 + t[1]);
            x.weigh(2, t[0]);
            DUE.is("8 a twin of weight " + t[0], x.leans(5, 0), 1000 + t[1]);
        }
        DUE.is("8 no such one", x.leans(6, 7), BAD);
        DUE.is("8 no such one", x.leans(-1, 7), BAD);
        DUE.is("8 hour 10000", x.leans(0, 10000), BAD);
        DUE.is("8 hour -1", x.leans(0, -1), BAD);
    }

    private static void stridesOfKinds() {
        PicturePegs x = new PicturePegs();
        for (int kind = 0; kind < 6; kind++) {
            x.person(kind, 2, 89, 0);
        }
        for (int pull = 0; pull <= 9; pull++) {
            x.set(1, pull);
            int[] due = {1, 2, 1 + pull, -1, 2 + 2 * pull, 0};
            for (int kind = 0; kind < 6; kind++) {
                DUE.is("9 strides, kind " + kind, x.strides(kind), 1000 + due[kind]);
                DUE.is("9 place, kind " + kind, x.ahead(kind, 1, 0), (due[kind] + 12) % 12);
            }
        }
        DUE.is("9 no such one", x.strides(6), BAD);
        DUE.is("9 no such one", x.strides(-1), BAD);
    }

    private static void changes() {
        PicturePegs x = new PicturePegs();
        x.person(0, 0, 7, 3);
        DUE.is("10 mind", x.mind(0, 4, 3), 0);
        DUE.is("10 of(0, 0)", x.of(0, 0), 4);
        DUE.is("10 of(0, 1)", x.of(0, 1), 3);
        DUE.is("10 mind again", x.mind(0, 4, 5), 4);
        DUE.is("10 of(0, 1)", x.of(0, 1), 5);
        int[][] wrong = {{1, 0, 0}, {-1, 0, 0}, {0, 6, 0}, {0, -1, 0}, {0, 0, 6}, {0, 0, -1}};
        for (int[] w : wrong) {
            DUE.is("10 mind, BAD", x.mind(w[0], w[1], w[2]), BAD);
        }
        DUE.is("10 nothing changed", x.of(0, 0), 4);
        DUE.is("11 age", x.age(0, 99), 7);
        DUE.is("11 age", x.age(0, 0), 99);
        DUE.is("11 age 100", x.age(0, 100), BAD);
        DUE.is("11 age -1", x.age(0, -1), BAD);
        DUE.is("11 no such one", x.age(1, 5), BAD);
        DUE.is("11 of(0, 2)", x.of(0, 2), 0);
        DUE.is("12 bring", x.bring(0, 11), 3);
        DUE.is("12 bring", x.bring(0, 0), 11);
        DUE.is("12 place 12", x.bring(0, 12), BAD);
        DUE.is("12 place -1", x.bring(0, -1), BAD);
        DUE.is("12 no such one", x.bring(1, 5), BAD);
        DUE.is("12 of(0, 3)", x.of(0, 3), 0);
    }

    private static void knowing() {
        PicturePegs x = new PicturePegs();
        for (int i = 0; i < 3; i++) {
            x.person(0, 0, 0, 0);
        }
        DUE.is("13 know", x.know(0, 2, 1), 0);
        DUE.is("13 know again", x.know(2, 0, 1), 1);
        DUE.is("13 of(0, 4)", x.of(0, 4), 4);
        DUE.is("13 of(2, 4)", x.of(2, 4), 1);
        DUE.is("13 of(1, 4)", x.of(1, 4), 0);
        DUE.is("13 know no more", x.know(2, 0, 0), 1);
        DUE.is("13 know no more", x.know(0, 2, 0), 0);
        DUE.is("13 of(0, 4)", x.of(0, 4), 0);
        DUE.is("13 of(2, 4)", x.of(2, 4), 0);
        int[][] wrong = {{0, 0, 1}, {3, 0, 1}, {0, 3, 1}, {-1, 0, 1}, {0, -1, 1}, {0, 1, 2},
            {0, 1, -1}};
        for (int[] w : wrong) {
            DUE.is("13 know, BAD", x.know(w[0], w[1], w[2]), BAD);
        }
    }

    private static void pegs() {
        PicturePegs x = new PicturePegs();
        x.person(0, 3, 0, 0);
        x.person(1, 5, 0, 0);
        x.person(2, 3, 0, 0);
        DUE.is("14 weigh", x.weigh(3, 99), 30);
        DUE.is("14 weigh", x.weigh(3, 0), 99);
        DUE.is("14 weigh the blank one", x.weigh(5, 1), 0);
        DUE.is("14 weight 100", x.weigh(3, 100), BAD);
        DUE.is("14 weight -1", x.weigh(3, -1), BAD);
        DUE.is("14 peg 6", x.weigh(6, 1), BAD);
        DUE.is("14 peg -1", x.weigh(-1, 1), BAD);
        DUE.is("15 peg(3, 0)", x.peg(3, 0), 0);
        DUE.is("15 peg(5, 0)", x.peg(5, 0), 1);
        DUE.is("15 peg(3, 1)", x.peg(3, 1), 5);
        DUE.is("15 peg(5, 1)", x.peg(5, 1), 2);
        DUE.is("15 peg(0, 1)", x.peg(0, 1), 0);
        DUE.is("15 peg(6, 0)", x.peg(6, 0), BAD);
        DUE.is("15 peg(-1, 0)", x.peg(-1, 0), BAD);
        DUE.is("15 peg(0, 2)", x.peg(0, 2), BAD);
        DUE.is("15 peg(0, -1)", x.peg(0, -1), BAD);
        x.mind(0, 0, 5);
        DUE.is("15 peg(5, 1)", x.peg(5, 1), 3);
    }
}
