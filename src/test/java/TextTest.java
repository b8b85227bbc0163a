/** Promises 1 to 3: a new object, the tape, a school told in a text. */
final class TextTest {
    private static final Due DUE = new Due("TextTest");

    public static void main(String[] args) {
        newObject();
        tape();
        schools();
        fullTape();
        faults();
        faultChangesNothing();
        ninthPerson();
        schoolStartsAnew();
        DUE.end();
    }

    private static void newObject() {
        PicturePegs x = new PicturePegs();
        for (int what = 0; what <= 6; what++) {
            DUE.is("1 many(" + what + ")", x.many(what), 0);
        }
        int[] laws = {4, 1, 2, 20};
        for (int law = 0; law < 4; law++) {
            DUE.is("1 lawOf(" + law + ")", x.lawOf(law), laws[law]);
        }
        for (int peg = 0; peg < 6; peg++) {
            DUE.is("1 peg(" + peg + ", 0)", x.peg(peg, 0), peg == 5 ? 0 : 30);
            DUE.is("1 peg(" + peg + ", 1)", x.peg(peg, 1), 0);
        }
        DUE.is("1 state(0)", x.state(0), 0);
        DUE.is("1 seed(5)", x.seed(5), 1);
        DUE.is("1 again()", x.again(), PicturePegs.NONE);
        DUE.is("1 row(0, 0)", x.row(0, 0), -999);
        DUE.is("1 trace(0)", x.trace(0), PicturePegs.NONE);
        for (int i = 0; i < 4; i++) {
            DUE.is("1 item(" + i + ", 0, 0)", x.item(i, 0, 0), -11);
            DUE.is("1 taken(" + i + ", 0)", x.taken(i, 0), -11);
        }
    }

    private static void tape() {
        PicturePegs x = new PicturePegs();
        DUE.is("2 feed(0, 0)", x.feed(0, 0), PicturePegs.BAD);
        DUE.is("2 feed(0, 9)", x.feed(0, 9), PicturePegs.BAD);
        DUE.is("2 feed(0, -1)", x.feed(0, -1), PicturePegs.BAD);
        DUE.is("2 feed(0, max)", x.feed(0, Integer.MAX_VALUE), PicturePegs.BAD);
        DUE.is("2 feed(.., 3)", x.feed(-1L, 3), 3);
        for (int i = 1; i <= 24; i++) {
            DUE.is("2 feed(.., 8)", x.feed(0, 8), 3 + 8 * i);
        }
        DUE.is("2 feed(.., 6)", x.feed(0, 6), PicturePegs.FULL);
        DUE.is("2 feed(.., 9), BAD before FULL", x.feed(0, 9), PicturePegs.BAD);
        DUE.is("2 many(5)", x.many(5), 195);
        DUE.is("2 feed(.., 5)", x.feed(0, 5), 200);
        DUE.is("2 feed(.., 1)", x.feed(0, 1), PicturePegs.FULL);
        DUE.is("2 many(5)", x.many(5), 200);
        DUE.is("2 school()", x.school(), -100);
        DUE.is("2 many(5)", x.many(5), 0);
        DUE.is("2 a byte of the highest bits", Due.school(x, "bell 3;bell 300;"), -112);
        DUE.is("2 lowest first", x.feed(0x3b20_376c_6c65_62L, 7), 7);
        DUE.is("2 school()", x.school(), 0);
        DUE.is("2 lawOf(0)", x.lawOf(0), 7);
        // nothing of a tape that is used up is read again
        DUE.is("3 a longer text", Due.school(x, "bellxx"), -100);
        DUE.is("3 a NAME at the end", Due.school(x, "bell"), -104);
        DUE.is("3 a longer text", Due.school(x, "bell 33"), -105);
        DUE.is("3 a NUMBER at the end", Due.school(x, "bell 3"), -106);
        DUE.is("3 a longer text", Due.school(x, "bell 3 ;   ;"), -111);
        DUE.is("3 blanks at the end", Due.school(x, "bell 3 ; "), 0);
        DUE.is("3 a longer text", Due.school(x, "bell 3   "), -109);
        DUE.is("3 the end", Due.school(x, "bell 3"), -106);
    }

    private static void schools() {
        PicturePegs x = new PicturePegs();
        DUE.is("3 school() of nothing", x.school(), 0);
        DUE.is("3 school() of blanks", Due.school(x, "    "), 0);
        DUE.is("3 school()", Due.school(x, "pupil at 3;bishop at 11 age 99;burglar at 0 had drum;"
                + "dean at 10 age 5 had pear;cracker at 1 age 005 had kite;twin at 001 had ladder;"
                + "pupil at 2 had blank;pupil at 2 had duck;"), 8);
        int[][] people = {{0, 0, 0, 3}, {1, 0, 99, 11}, {2, 1, 0, 0}, {3, 2, 5, 10},
            {4, 3, 5, 1}, {5, 4, 0, 1}, {0, 5, 0, 2}, {0, 0, 0, 2}};
        for (int p = 0; p < people.length; p++) {
            for (int what = 0; what < 4; what++) {
                DUE.is("3 of(" + p + ", " + what + ")", x.of(p, what), people[p][what]);
            }
        }
        DUE.is("3 school() without blanks",
                Due.school(x, "duck weighs 99;drum weighs0;pear  weighs 1 ;kite weighs 12;ladder "
                + "weighs 7;blank weighs 44;bell 9;pull 0;room 9;chance 99;bell8;"), 0);
        int[] weights = {99, 0, 1, 12, 7, 44};
        for (int peg = 0; peg < 6; peg++) {
            DUE.is("3 peg(" + peg + ", 0)", x.peg(peg, 0), weights[peg]);
        }
        int[] laws = {8, 0, 9, 99};
        for (int law = 0; law < 4; law++) {
            DUE.is("3 lawOf(" + law + ")", x.lawOf(law), laws[law]);
        }
        DUE.is("3 a sentence over many feeds", Due.school(x, "  twin   at3age4had drum;  "), 1);
        DUE.is("3 of(0, 1)", x.of(0, 1), 1);
        DUE.is("3 of(0, 2)", x.of(0, 2), 4);
    }

    // The last byte of a full tape ends whatever it stands in.
    private static void fullTape() {
        StringBuilder sentences = new StringBuilder();
        while (sentences.length() < 192) {
            sentences.append("kite weighs 10; ");
        }
        String[] ends = {"room  8;", "bell 8; ", "bell   1", "bellbell", "bell    ", "pull 999",
            "99999999"};
        int[] due = {0, 0, -300, -292, -300, -297, -292};
        for (int i = 0; i < ends.length; i++) {
            PicturePegs x = new PicturePegs();
            DUE.is("2 feed of 200", Due.feed(x, sentences + ends[i]), 200);
            DUE.is("3 school() ending in '" + ends[i] + "'", x.school(), due[i]);
        }
    }

    private static void fault(String text, int place) {
        DUE.is("3 school() of '" + text + "'", Due.school(new PicturePegs(), text), -100 - place);
    }

    private static void faults() {
        fault(";", 0);
        fault("  ;", 2);
        fault("3", 0);
        fault("at 3;", 0);
        fault("age 3;", 0);
        fault("pupils at 3;", 0);
        fault("Pupil at 3;", 0);
        fault("pUpil at 3;", 0);
        fault("pupil", 5);
        fault("pupil  ", 7);
        fault("pupil 3;", 6);
        fault("pupil at;", 8);
        fault("pupil at", 8);
        fault("pupil at 12;", 9);
        fault("pupil at 0003;", 9);
        fault("pupil at -3;", 9);
        fault("pupil at 3", 10);
        fault("pupil at 3 3;", 11);
        fault("pupil at 3 at 3;", 11);
        fault("pupil at 3 age;", 14);
        fault("pupil at 3 age 100;", 15);
        fault("pupil at 3 age 99 age 3;", 18);
        fault("pupil at 3 had drum age 3;", 20);
        fault("pupil at 3 had", 14);
        fault("pupil at 3 had pupil;", 15);
        fault("pupil at 3 had drums;", 15);
        fault("pupil at 3 had drum", 19);
        fault("pupil at 3 had drum drum;", 20);
        fault("pupil at 3;;", 11);
        fault("duck weighs 100;", 12);
        fault("duck 3;", 5);
        fault("duck weighs;", 11);
        fault("duckweighs 3;", 0);
        fault("bell 10;", 5);
        fault("pull 10;", 5);
        fault("room 10;", 5);
        fault("chance 100;", 7);
        fault("chance 1000000000000000000;", 7);
        fault("bell;", 4);
        fault("bell bell;", 5);
        fault("bell 3.", 6);
        fault("bell\t3;", 4);
        fault("bell 3;\n", 7);
        fault("bell 3;" + (char) 233, 7);
        fault("bell 3;" + (char) (128 + ';'), 7);
        fault("bell 3; pupil at 3; x", 20);
        fault("pupilz at 3;", 0);
        fault("apupil at 3;", 0);
        fault("xupil at 3;", 0);
        fault("pupia at 3;", 0);
        fault("burglars at 3;", 0);
        fault("burglarburglar at 3;", 0);
    }

    private static void faultChangesNothing() {
        PicturePegs x = new PicturePegs();
        DUE.is("3 school()", Due.school(x, "twin at 3; twin at 3; bell 2;"), 2);
        DUE.is("3 prove(0, 2)", x.prove(0, 2), 2);
        x.hours(1);
        DUE.is("3 a fault", Due.school(x, "bell 7; dean at 4; dean at 40;"), -127);
        DUE.is("3 many(0) behind a fault", x.many(0), 2);
        DUE.is("3 many(4) behind a fault", x.many(4), 2);
        DUE.is("3 many(5) behind a fault", x.many(5), 0);
        DUE.is("3 lawOf(0) behind a fault", x.lawOf(0), 2);
        DUE.is("3 state(0) behind a fault", x.state(0), 1);
        DUE.is("3 state(1) behind a fault", x.state(1), 1);
        DUE.is("3 of(0, 0) behind a fault", x.of(0, 0), 5);
    }

    private static void ninthPerson() {
        String eight = "twin at 3;twin at 3;twin at 3;twin at 3;twin at 3;twin at 3;twin at 3;"
                + "twin at 3;";
        fault(eight + " dean ate;", 81);
        fault(eight + "dean", 80);
        DUE.is("3 eight", Due.school(new PicturePegs(), eight + "bell 3;"), 8);
    }

    private static void schoolStartsAnew() {
        PicturePegs x = new PicturePegs();
        Due.school(x, "twin at 3; twin at 3; twin at 4; bell 2; duck weighs 50;");
        x.sheet(1, 2, 3);
        x.put(1, 2, 9);
        x.shelf(0, 0, 2);
        x.shelf(1, 1, 1);
        x.hours(3);
        x.keep();
        x.prove(1, 3);
        x.act(0, 1, 4);
        x.seed(77);
        DUE.is("3 school()", Due.school(x, "pupil at 1; dean at 2;"), 2);
        DUE.is("3 state(0)", x.state(0), 0);
        DUE.is("3 state(1)", x.state(1), 0);
        DUE.is("3 of(0, 4)", x.of(0, 4), 0);
        DUE.is("3 lawOf(0)", x.lawOf(0), 4);
        DUE.is("3 peg(0, 0)", x.peg(0, 0), 30);
        DUE.is("3 many(4)", x.many(4), 0);
        DUE.is("3 row(0, 0)", x.row(0, 0), -999);
        DUE.is("3 z stays", x.seed(1), 77);
        DUE.is("3 sheets stay", x.item(1, 2, 2), 9);
        DUE.is("3 rows on shelves stay", x.taken(1, 12), 3);
        DUE.is("3 one that is no more", x.taken(0, 0), -11);
        DUE.is("3 the trace stays", x.trace(0), 11);
        DUE.is("3 what is kept stays", x.again(), 3);
        DUE.is("3 the shelf's one is back", x.taken(0, 5), 2);
    }
}
