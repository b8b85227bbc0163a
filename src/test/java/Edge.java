import java.util.function.ToLongFunction;
import java.util.stream.IntStream;

/** What the boundary tests share; the document's numbers by their names. */
abstract class Edge {
    static final int BAD = PicturePegs.BAD, FULL = PicturePegs.FULL, NONE = PicturePegs.NONE;
    static final int PUPIL = 0, BISHOP = 1, BURGLAR = 2, DEAN = 3, CRACKER = 4, TWIN = 5;
    static final int DUCK = 0, DRUM = 1, PEAR = 2, KITE = 3, LADDER = 4, BLANK = 5;
    static final int BELL = 0, PULL = 1, ROOM = 2, CHANCE = 3;

    private static final String TAPE = "dean at 4 ;";

    /** Numbers just below and above a range, the farthest ones, and those that narrow into it. */
    static int[] outside(int least, int most) {
        return IntStream.concat(below(least), above(most))
                .filter(v -> v < least || v > most).distinct().toArray();
    }

    private static IntStream below(int least) {
        return IntStream.of(least - 1, least - 256, least - 65536, Integer.MIN_VALUE);
    }

    private static IntStream above(int most) {
        return IntStream.of(most + 1, most + 256, most + 65536, Integer.MAX_VALUE);
    }

    static int[] tooSmall(int least) {
        return below(least).toArray();
    }

    static int[] tooLarge(int most) {
        return above(most).toArray();
    }

    /** A call on Whole.rich() that must answer so and change nothing: refused, asked or tried. */
    static void refused(Due due, String call, long answer, ToLongFunction<PicturePegs> asked) {
        PicturePegs x = Whole.rich(TAPE);
        due.is(call, asked.applyAsLong(x), answer);
        unchanged(due, call, x, Whole.rich(TAPE));
    }

    /** The same, on Whole.rich() with three more people, so that there are eight. */
    static void refusedOfEight(Due due, String call, long answer, ToLongFunction<PicturePegs> asked) {
        PicturePegs x = eight();
        due.is(call, asked.applyAsLong(x), answer);
        unchanged(due, call, x, eight());
    }

    /** A call that changes nothing, whatever it answers. */
    static void changesNothing(Due due, String call, ToLongFunction<PicturePegs> asked) {
        PicturePegs x = Whole.rich(TAPE);
        asked.applyAsLong(x);
        unchanged(due, call, x, Whole.rich(TAPE));
    }

    static void unchanged(Due due, String call, PicturePegs got, PicturePegs want) {
        String difference = Whole.difference(got, want);
        due.holds(call + " changed:" + difference, difference.isEmpty());
    }

    private static PicturePegs eight() {
        PicturePegs x = Whole.rich(TAPE);
        for (int i = 5; i < 8; i++) {
            x.person(i - 5, i - 5, i, i);
        }
        return x;
    }

    /** So many of a kind and a peg, all at one place, of age 0. */
    static PicturePegs crowd(int n, int kind, int peg, int place) {
        PicturePegs x = new PicturePegs();
        for (int i = 0; i < n; i++) {
            x.person(kind, peg, 0, place);
        }
        return x;
    }
}
