/** Compares answers with what is due, prints those that differ, and ends the test. */
final class Due {
    private final String test;
    private int asked = 0;
    private int wrong = 0;

    Due(String test) {
        this.test = test;
    }

    void is(String call, long got, long want) {
        asked++;
        if (got != want) {
            wrong++;
            System.out.println(test + ": " + call + " answered " + got + ", due is " + want);
        }
    }

    void holds(String what, boolean so) {
        is(what, so ? 1 : 0, 1);
    }

    int asked() {
        return asked;
    }

    int wrong() {
        return wrong;
    }

    void end() {
        System.out.println(test + ": " + asked + " asked, " + wrong + " wrong");
        if (wrong != 0) {
            System.exit(1);
        }
    }

    /** What takes bytes as feed() does. */
    interface Tape {
        int feed(long eight, int n);
    }

    static int feed(PicturePegs pegs, String text) {
        return bytesTo(pegs::feed, text);
    }

    /** Feeds a text of signs 0 to 255 to a tape; answers what the last feed() answered. */
    static int bytesTo(Tape tape, String text) {
        int answer = 0;
        for (int from = 0; from < text.length(); from += 8) {
            int n = Math.min(8, text.length() - from);
            long eight = 0;
            for (int i = 0; i < n; i++) {
                eight |= (long) (text.charAt(from + i) & 255) << 8 * i;
            }
            answer = tape.feed(eight, n);
        }
        return answer;
    }

    static int school(PicturePegs pegs, String text) {
        feed(pegs, text);
        return pegs.school();
    }
}
