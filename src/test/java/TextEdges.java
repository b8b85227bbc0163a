/** Boundary cases of promises 1 to 3: a new object, the tape, a school told in a text. */
final class TextEdges extends Edge {
    private static final String EIGHT = "twin at 0;twin at 1;twin at 2;twin at 3;twin at 4;"
            + "twin at 5;twin at 6;twin at 7;";

    private static String repeated(String text, int length) {
        StringBuilder row = new StringBuilder();
        while (row.length() < length) {
            row.append(text);
        }
        row.setLength(length);
        return row.toString();
    }

    private static long bytes(String text) {
        long eight = 0;
        for (int i = 0; i < text.length(); i++) {
            eight |= (long) (text.charAt(i) & 255) << 8 * i;
        }
        return eight;
    }

    private static PicturePegs withTape(int length) {
        PicturePegs x = new PicturePegs();
        Due.feed(x, repeated(" ", length));
        return x;
    }

    private static void told(Due due, String text, int people) {
        due.is("school() of '" + text + "'", Due.school(new PicturePegs(), text), people);
    }

    private static void fault(Due due, String text, int place) {
        due.is("school() of '" + text + "'", Due.school(new PicturePegs(), text), -100 - place);
    }

    // ---- promise 1 ----

    static void promise01_nobodyAtFirst(Due due) {
        PicturePegs x = new PicturePegs();
        for (int what = 0; what <= 3; what++) {
            due.is("many(" + what + ")", x.many(what), 0);
        }
        for (int what = 0; what <= 5; what++) {
            due.is("of(0, " + what + ")", x.of(0, what), BAD);
        }
        due.is("strides(0)", x.strides(0), BAD);
    }

    static void promise01_nothingIsKeptAtFirst(Due due) {
        due.is("again()", new PicturePegs().again(), NONE);
    }

    static void promise01_lawsAtFirst(Due due) {
        PicturePegs x = new PicturePegs();
        due.is("BELL", x.lawOf(BELL), 4);
        due.is("PULL", x.lawOf(PULL), 1);
        due.is("ROOM", x.lawOf(ROOM), 2);
        due.is("CHANCE", x.lawOf(CHANCE), 20);
    }

    static void promise01_weightsAtFirst(Due due) {
        PicturePegs x = new PicturePegs();
        for (int peg = DUCK; peg <= LADDER; peg++) {
            due.is("WEIGHT of " + peg, x.peg(peg, 0), 30);
        }
        due.is("WEIGHT of the blank one", x.peg(BLANK, 0), 0);
        due.is("of all together", x.state(5), 150);
    }

    static void promise01_hourIs0AtFirst(Due due) {
        due.is("state(0)", new PicturePegs().state(0), 0);
    }

    static void promise01_zIs1AtFirst(Due due) {
        due.is("seed(0)", new PicturePegs().seed(0), 1);
    }

    static void promise01_tapeRowsAndTraceAreEmptyAtFirst(Due due) {
        PicturePegs x = new PicturePegs();
        for (int what = 4; what <= 6; what++) {
            due.is("many(" + what + ")", x.many(what), 0);
        }
        due.is("row(0, 0)", x.row(0, 0), -999);
        due.is("trace(0)", x.trace(0), NONE);
    }

    static void promise01_sheetsAreMissingAtFirst(Due due) {
        PicturePegs x = new PicturePegs();
        for (int sheet = 0; sheet < 4; sheet++) {
            due.is("item(" + sheet + ", 0, 0)", x.item(sheet, 0, 0), -11);
        }
    }

    static void promise01_shelvesHoldNothingAtFirst(Due due) {
        PicturePegs x = new PicturePegs();
        for (int shelf = 0; shelf < 4; shelf++) {
            due.is("taken(" + shelf + ", 0)", x.taken(shelf, 0), -11);
            due.is("taken(" + shelf + ", 10)", x.taken(shelf, 10), -11);
        }
    }

    static void promise01_objectsShareNothing(Due due) {
        PicturePegs before = new PicturePegs();
        Whole.rich("bell 3;");
        unchanged(due, "another object", before, new PicturePegs());
    }

    // ---- promise 2 ----

    static void promise02_nTooSmallIsBad(Due due) {
        for (int n : tooSmall(1)) {
            refused(due, "feed(59, " + n + ")", BAD, x -> x.feed(59, n));
        }
    }

    static void promise02_nTooLargeIsBad(Due due) {
        for (int n : tooLarge(8)) {
            refused(due, "feed(59, " + n + ")", BAD, x -> x.feed(59, n));
        }
    }

    static void promise02_oneByteAndEightBytes(Due due) {
        PicturePegs x = new PicturePegs();
        due.is("feed(.., 1)", x.feed(bytes("b"), 1), 1);
        due.is("feed(.., 8)", x.feed(bytes("ell   8;"), 8), 9);
        due.is("school()", x.school(), 0);
        due.is("lawOf(0)", x.lawOf(BELL), 8);
    }

    static void promise02_lowestByteFirst(Due due) {
        PicturePegs x = new PicturePegs();
        due.is("feed(.., 7)", x.feed(0x3b20_376c_6c65_62L, 7), 7);
        due.is("school()", x.school(), 0);
        due.is("lawOf(0)", x.lawOf(BELL), 7);
    }

    static void promise02_bytesAboveNDoNotCome(Due due) {
        PicturePegs x = new PicturePegs();
        due.is("feed(.., 7)", x.feed(bytes("room 7;?"), 7), 7);
        due.is("feed(.., 7)", x.feed(bytes("pull 6;?"), 7), 14);
        due.is("school()", x.school(), 0);
        due.is("lawOf(2)", x.lawOf(ROOM), 7);
        due.is("lawOf(1)", x.lawOf(PULL), 6);
    }

    static void promise02_highestByteOfEightComes(Due due) {
        PicturePegs x = new PicturePegs();
        due.is("feed(.., 8)", x.feed(bytes("room  8;"), 8), 8);
        due.is("school()", x.school(), 0);
        x.feed(bytes("room 8;" + (char) (128 + ';')), 8);
        due.is("school(), its highest bit set", x.school(), -107);
    }

    static void promise02_justTwoHundredBytes(Due due) {
        PicturePegs x = new PicturePegs();
        for (int i = 1; i <= 25; i++) {
            due.is("feed(.., 8)", x.feed(bytes("        "), 8), 8 * i);
        }
        due.is("many(5)", x.many(5), 200);
        due.is("school()", x.school(), 0);
    }

    static void promise02_moreThanTwoHundredIsFull(Due due) {
        for (int n = 1; n <= 8; n++) {
            PicturePegs x = withTape(200 - n + 1);
            due.is("feed of " + n + " at " + (200 - n + 1), x.feed(0, n), FULL);
            due.is("many(5)", x.many(5), 200 - n + 1);
            PicturePegs y = withTape(200 - n);
            due.is("feed of " + n + " at " + (200 - n), y.feed(0, n), 200);
        }
    }

    static void promise02_badIsNamedBeforeFull(Due due) {
        PicturePegs x = withTape(200);
        due.is("feed(0, 9)", x.feed(0, 9), BAD);
        due.is("feed(0, 0)", x.feed(0, 0), BAD);
        due.is("feed(0, max)", x.feed(0, Integer.MAX_VALUE), BAD);
    }

    static void promise02_nothingOfAFullFeedComes(Due due) {
        PicturePegs x = new PicturePegs();
        Due.feed(x, repeated(" ", 192) + "room");
        due.is("feed(.., 8)", x.feed(bytes(" 3;xxxxx"), 8), FULL);
        due.is("feed(.., 4)", x.feed(bytes(" 8; "), 4), 200);
        due.is("school()", x.school(), 0);
        due.is("lawOf(2)", x.lawOf(ROOM), 8);
    }

    static void promise02_usedUpTapeTakesTwoHundredAgain(Due due) {
        PicturePegs x = withTape(200);
        due.is("school()", x.school(), 0);
        due.is("many(5)", x.many(5), 0);
        due.is("feed of 200", Due.feed(x, repeated("?", 200)), 200);
        due.is("school()", x.school(), -100);
        due.is("many(5)", x.many(5), 0);
        due.is("feed of 200", Due.feed(x, repeated(" ", 200)), 200);
        due.is("feed(0, 1)", x.feed(0, 1), FULL);
    }

    // ---- promise 3 ----

    static void promise03_emptyTapeIsASchoolOfNobody(Due due) {
        PicturePegs x = Whole.rich("");
        due.is("school()", x.school(), 0);
        due.is("many(0)", x.many(0), 0);
        due.is("lawOf(0)", x.lawOf(BELL), 4);
        due.is("peg(3, 0)", x.peg(KITE, 0), 30);
        due.is("state(0)", x.state(0), 0);
    }

    static void promise03_blanksAloneAreASchoolOfNobody(Due due) {
        told(due, " ", 0);
        told(due, repeated(" ", 200), 0);
    }

    static void promise03_textUpToTheLastOfTwoHundredBytes(Due due) {
        PicturePegs x = new PicturePegs();
        Due.feed(x, repeated(" ", 191) + "twin at 7");
        due.is("school() without the last byte", x.school(), -300);
        due.is("feed", Due.feed(x, repeated(" ", 190) + "twin at 7;"), 200);
        due.is("school()", x.school(), 1);
        due.is("of(0, 3)", x.of(0, 3), 7);
    }

    static void promise03_eightPeople(Due due) {
        told(due, EIGHT, 8);
        told(due, EIGHT + "bell 3;duck weighs 3; ", 8);
    }

    static void promise03_faultAtTheNameOfANinth(Due due) {
        fault(due, EIGHT + "dean at 3;", 80);
        fault(due, EIGHT + "  dean at 3;", 82);
        fault(due, EIGHT + "dean", 80);
        fault(due, EIGHT + "bell 3;pupil at 99;", 87);
        fault(due, EIGHT + "deans", 80);
    }

    static void promise03_placesFrom0To11(Due due) {
        for (int place = 0; place <= 11; place++) {
            PicturePegs x = new PicturePegs();
            due.is("school()", Due.school(x, "pupil at " + place + ";"), 1);
            due.is("of(0, 3)", x.of(0, 3), place);
        }
        fault(due, "pupil at 12;", 9);
        fault(due, "pupil at 999;", 9);
        fault(due, "pupil at -1;", 9);
    }

    static void promise03_ageFrom0To99(Due due) {
        int[] ages = {0, 1, 9, 10, 98, 99};
        for (int age : ages) {
            PicturePegs x = new PicturePegs();
            due.is("school()", Due.school(x, "pupil at 3 age " + age + ";"), 1);
            due.is("of(0, 2)", x.of(0, 2), age);
        }
        fault(due, "pupil at 3 age 100;", 15);
        fault(due, "pupil at 3 age 999;", 15);
    }

    static void promise03_ageIs0AndThePegTheDuckWithout(Due due) {
        PicturePegs x = new PicturePegs();
        due.is("school()", Due.school(x, "pupil at 3 age 7 had pear;dean at 4;twin at 5 had kite;"
                + "twin at 6 age 5;"), 4);
        due.is("of(1, 2)", x.of(1, 2), 0);
        due.is("of(1, 1)", x.of(1, 1), DUCK);
        due.is("of(2, 2)", x.of(2, 2), 0);
        due.is("of(2, 1)", x.of(2, 1), KITE);
        due.is("of(3, 2)", x.of(3, 2), 5);
        due.is("of(3, 1)", x.of(3, 1), DUCK);
    }

    static void promise03_weightFrom0To99(Due due) {
        String[] pegs = {"duck", "drum", "pear", "kite", "ladder", "blank"};
        for (int peg = 0; peg < 6; peg++) {
            PicturePegs x = new PicturePegs();
            due.is("school()", Due.school(x, pegs[peg] + " weighs 99;"), 0);
            due.is("peg(" + peg + ", 0)", x.peg(peg, 0), 99);
            due.is("school()", Due.school(x, pegs[peg] + " weighs 0;"), 0);
            due.is("peg(" + peg + ", 0)", x.peg(peg, 0), 0);
            fault(due, pegs[peg] + " weighs 100;", pegs[peg].length() + 8);
        }
    }

    static void promise03_lawsUpTo9AndChanceUpTo99(Due due) {
        String[] laws = {"bell", "pull", "room", "chance"};
        int[] most = {9, 9, 9, 99};
        for (int law = 0; law < 4; law++) {
            PicturePegs x = new PicturePegs();
            due.is("school()", Due.school(x, laws[law] + " " + most[law] + ";"), 0);
            due.is("lawOf(" + law + ")", x.lawOf(law), most[law]);
            due.is("school()", Due.school(x, laws[law] + " 0;"), 0);
            due.is("lawOf(" + law + ")", x.lawOf(law), 0);
            fault(due, laws[law] + " " + (most[law] + 1) + ";", laws[law].length() + 1);
        }
    }

    static void promise03_numbersOfOneToThreeDigits(Due due) {
        told(due, "bell 7;", 0);
        told(due, "bell 07;", 0);
        told(due, "bell 007;", 0);
        told(due, "chance 099;", 0);
        told(due, "pupil at 011 age 000;", 1);
        fault(due, "bell 0007;", 5);
        fault(due, "bell 0000;", 5);
        fault(due, "pupil at 0011;", 9);
        fault(due, "duck weighs 0001;", 12);
    }

    static void promise03_numbersAsLongAsTheyGoDoNotWrap(Due due) {
        fault(due, "bell 4294967299;", 5);
        fault(due, "bell 18446744073709551619;", 5);
        fault(due, "bell " + repeated("0", 195), 5);
        fault(due, "bell " + repeated("9", 195), 5);
    }

    static void promise03_namesAsLongAsTheyGo(Due due) {
        fault(due, "pupilat 3;", 0);
        fault(due, "pupi at 3;", 0);
        fault(due, "pupils at 3;", 0);
        fault(due, "burglars at 3;", 0);
        fault(due, "bellbell 3;", 0);
        fault(due, "pupil att 3;", 6);
        fault(due, "pupil a 3;", 6);
        fault(due, "duck weigh 3;", 5);
        fault(due, "duck weighss 3;", 5);
        fault(due, "duck weighsweighs 3;", 5);
        fault(due, "duck weighs" + repeated("s", 150) + " 3;", 5);
        fault(due, "twin at 3 ages 3;", 10);
        fault(due, "twin at 3 had duckdrum;", 14);
        fault(due, repeated("pupil", 200), 0);
    }

    static void promise03_eachNameFromItsFirstLetterToItsLast(Due due) {
        String[] kinds = {"pupil", "bishop", "burglar", "dean", "cracker", "twin"};
        String[] pegs = {"duck", "drum", "pear", "kite", "ladder", "blank"};
        for (int i = 0; i < 6; i++) {
            PicturePegs x = new PicturePegs();
            due.is("school()", Due.school(x, kinds[i] + " at 3 had " + pegs[i] + ";"), 1);
            due.is("of(0, 0)", x.of(0, 0), i);
            due.is("of(0, 1)", x.of(0, 1), i);
            fault(due, "q" + kinds[i].substring(1) + " at 3;", 0);
            fault(due, kinds[i].substring(0, kinds[i].length() - 1) + "q at 3;", 0);
            fault(due, "q" + pegs[i].substring(1) + " weighs 3;", 0);
            fault(due, pegs[i].substring(0, pegs[i].length() - 1) + "q weighs 3;", 0);
        }
        String[] laws = {"bell", "pull", "room", "chance"};
        for (String law : laws) {
            fault(due, "q" + law.substring(1) + " 3;", 0);
            fault(due, law.substring(0, law.length() - 1) + "q 3;", 0);
        }
    }

    static void promise03_aAndZAreLetters(Due due) {
        fault(due, "bella 3;", 0);
        fault(due, "bellz 3;", 0);
        fault(due, "abell 3;", 0);
        fault(due, "zbell 3;", 0);
    }

    static void promise03_lettersAreAToZAlone(Due due) {
        fault(due, "Bell 3;", 0);
        fault(due, "belL 3;", 0);
        fault(due, "bell` 3;", 4);
        fault(due, "bell{ 3;", 4);
        fault(due, "pupil@ at 3;", 5);
        fault(due, "pupil[ at 3;", 5);
        fault(due, "bell" + (char) 225 + " 3;", 4);
    }

    static void promise03_digitsAre0To9Alone(Due due) {
        fault(due, "bell /;", 5);
        fault(due, "bell :;", 5);
        fault(due, "bell 3/;", 6);
        fault(due, "bell 3:;", 6);
        fault(due, "bell +3;", 5);
        fault(due, "bell " + (char) 179 + ";", 5);
    }

    static void promise03_blanksAre32Alone(Due due) {
        int[] others = {0, 9, 10, 13, 31, 33, 127, 128, 160, 255};
        for (int sign : others) {
            fault(due, "bell" + (char) sign + "3;", 4);
            fault(due, "bell 3;" + (char) sign, 7);
            fault(due, (char) sign + "bell 3;", 0);
        }
    }

    static void promise03_blanksStandElsewhereAsOneLikes(Due due) {
        PicturePegs x = new PicturePegs();
        due.is("school()", Due.school(x, "   twin   at   3   age   4   had   pear   ;   bell   3   ;"), 1);
        due.is("of(0, 2)", x.of(0, 2), 4);
        due.is("of(0, 1)", x.of(0, 1), PEAR);
        due.is("without", Due.school(x, "twin at3age4had pear;bell3;room7;kite weighs8;"), 1);
        due.is("of(0, 2)", x.of(0, 2), 4);
        due.is("peg(3, 0)", x.peg(KITE, 0), 8);
    }

    static void promise03_faultAtTheEndIfMoreMustCome(Due due) {
        String[] cut = {"pupil", "pupil at", "pupil at 3", "pupil at 3 age", "pupil at 3 age 4",
            "pupil at 3 age 4 had", "pupil at 3 age 4 had drum", "pupil at 3 had", "duck",
            "duck weighs", "duck weighs 3", "bell", "bell 3", "pull", "pull 3", "room", "room 3",
            "chance", "chance 33", "bell 3;bell"};
        for (String text : cut) {
            fault(due, text, text.length());
            fault(due, text + "   ", text.length() + 3);
        }
    }

    static void promise03_faultAtTheFirstByteIs100BelowZero(Due due) {
        fault(due, ";", 0);
        fault(due, "3", 0);
        fault(due, "12345", 0);
        fault(due, "at 3;", 0);
        fault(due, "age 3;", 0);
        fault(due, "had duck;", 0);
        fault(due, "weighs 3;", 0);
        fault(due, "x", 0);
    }

    static void promise03_faultAtWhatCannotStandThere(Due due) {
        fault(due, "pupil;", 5);
        fault(due, "pupil 3;", 6);
        fault(due, "pupil weighs 3;", 6);
        fault(due, "pupil at at 3;", 9);
        fault(due, "pupil at;", 8);
        fault(due, "pupil at 3 3;", 11);
        fault(due, "pupil at 3 age;", 14);
        fault(due, "pupil at 3 age 4 age 4;", 17);
        fault(due, "pupil at 3 age 4 at 4;", 17);
        fault(due, "pupil at 3 age had duck;", 15);
        fault(due, "pupil at 3 had;", 14);
        fault(due, "pupil at 3 had 3;", 15);
        fault(due, "pupil at 3 had pupil;", 15);
        fault(due, "pupil at 3 had duck age 3;", 20);
        fault(due, "pupil at 3 had duck had duck;", 20);
        fault(due, "pupil at 3 had duck 3;", 20);
        fault(due, "duck at 3;", 5);
        fault(due, "duck 3;", 5);
        fault(due, "duck weighs;", 11);
        fault(due, "duck weighs 3 3;", 14);
        fault(due, "bell weighs 3;", 5);
        fault(due, "bell;", 4);
        fault(due, "bell 3 3;", 7);
        fault(due, "bell 3a;", 6);
        fault(due, "bell 3;;", 7);
        fault(due, "bell 3 bell 3;", 7);
    }

    static void promise03_firstOfSeveralFaults(Due due) {
        fault(due, "bell 10; pull 10; x", 5);
        fault(due, "bell 3; pull 10; pupil at 12;", 13);
        fault(due, "pupil at 12 age 100;", 9);
    }

    static void promise03_laterSentenceCounts(Due due) {
        PicturePegs x = new PicturePegs();
        due.is("school()", Due.school(x, "bell 3;duck weighs 9;bell 8;duck weighs 7;"), 0);
        due.is("lawOf(0)", x.lawOf(BELL), 8);
        due.is("peg(0, 0)", x.peg(DUCK, 0), 7);
    }

    static void promise03_faultChangesNothingButTheTape(Due due) {
        String[] texts = {"?", "bell 9;duck weighs 5;pupil at 1;x", "twin at 3", EIGHT + "twin at 3;"};
        for (String text : texts) {
            PicturePegs x = Whole.rich(text);
            due.holds("school() of '" + text + "' is a fault", x.school() <= -100);
            unchanged(due, "school() of '" + text + "'", x, Whole.rich(""));
        }
    }

    static void promise03_whatTheTextDoesNotTellIsAsAtFirst(Due due) {
        PicturePegs x = Whole.rich("pupil at 1;pupil at 1;");
        due.is("school()", x.school(), 2);
        int[] laws = {4, 1, 2, 20};
        for (int law = 0; law < 4; law++) {
            due.is("lawOf(" + law + ")", x.lawOf(law), laws[law]);
        }
        for (int peg = 0; peg < 6; peg++) {
            due.is("peg(" + peg + ", 0)", x.peg(peg, 0), peg == BLANK ? 0 : 30);
        }
        due.is("HOUR", x.state(0), 0);
        due.is("of(0, 4)", x.of(0, 4), 0);
        due.is("of(1, 4)", x.of(1, 4), 0);
        due.is("nobody else", x.of(2, 0), BAD);
    }

    static void promise03_zStays(Due due) {
        PicturePegs x = Whole.rich("pupil at 1;");
        x.school();
        due.is("seed(0)", x.seed(0), -12345);
    }

    static void promise03_thereAreNoRowsThen(Due due) {
        PicturePegs x = Whole.rich("pupil at 1;");
        due.is("many(4) before", x.many(4), 4);
        x.school();
        due.is("many(4)", x.many(4), 0);
        due.is("row(0, 0)", x.row(0, 0), -999);
        due.is("judge(0)", x.judge(0), 0);
    }

    static void promise03_theTapeIsUsedUp(Due due) {
        PicturePegs x = new PicturePegs();
        due.is("school()", Due.school(x, "pupil at 1;pupil at 2;"), 2);
        due.is("many(5)", x.many(5), 0);
        due.is("school() of nothing", x.school(), 0);
        due.is("a fault", Due.school(x, "pupil at 1;pupil at 2"), -121);
        due.is("many(5)", x.many(5), 0);
        due.is("no byte is left", Due.school(x, ";"), -100);
        due.is("a shorter text", Due.school(x, "pupil at 1"), -110);
    }
}
