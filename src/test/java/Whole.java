import java.util.LinkedHashMap;
import java.util.Map;

/** A school with something in every corner, and all that calls can tell of an object. */
final class Whole {
    private final PicturePegs x;
    private final Map<String, Long> seen = new LinkedHashMap<>();

    private Whole(PicturePegs x) {
        this.x = x;
    }

    /**
     * Five people; sheets 0 (bytes), 1 (shorts), 3 (longs), none at 2; a person on shelf 0, rows on
     * 1 and 3, nothing on 2; four rows of hours, a trace, the text on the tape, a school kept.
     */
    static PicturePegs rich(String tape) {
        PicturePegs x = new PicturePegs();
        keptSchool(x);
        x.keep();
        return filled(x, tape);
    }

    /** The same, but that nothing is kept. */
    static PicturePegs richKeepingNothing(String tape) {
        PicturePegs x = new PicturePegs();
        keptSchool(x);
        return filled(x, tape);
    }

    private static void keptSchool(PicturePegs x) {
        Due.school(x, "twin at 3 age 41;bishop at 5 had pear;kite weighs 61;room 5;chance 7;");
        x.hours(3);
        x.seed(11);
    }

    private static PicturePegs filled(PicturePegs x, String tape) {
        x.person(2, 0, 17, 3);
        x.person(3, 2, 98, 0);
        x.person(5, 5, 50, 3);
        x.know(0, 4, 1);
        x.know(1, 2, 1);
        x.set(0, 6);
        x.set(1, 3);
        x.weigh(0, 55);
        x.hours(2);
        x.seed(-12345);
        x.prove(2, 4);
        x.sheet(0, 0, 3);
        x.put(0, 0, 9);
        x.put(0, 2, -100);
        x.sheet(1, 1, 2);
        x.put(1, 1, 1234);
        x.sheet(3, 3, 1);
        x.put(3, 0, -5);
        x.shelf(0, 0, 4);
        x.shelf(1, 1, 1);
        x.shelf(3, 1, 0);
        x.act(0, 3, 9);
        Due.feed(x, tape);
        return x;
    }

    /** What is different between two objects, or nothing if all is the same; it uses both up. */
    static String difference(PicturePegs one, PicturePegs other) {
        Map<String, Long> first = allOf(one);
        Map<String, Long> second = allOf(other);
        StringBuilder text = new StringBuilder();
        for (Map.Entry<String, Long> entry : first.entrySet()) {
            if (!entry.getValue().equals(second.get(entry.getKey()))) {
                text.append(' ').append(entry.getKey()).append(": ").append(entry.getValue())
                        .append(", not ").append(second.get(entry.getKey())).append(';');
            }
        }
        return text.toString();
    }

    // What is kept and what the tape has show only by again() and school(), so these come last.
    private static Map<String, Long> allOf(PicturePegs x) {
        Whole whole = new Whole(x);
        whole.school("now");
        whole.rows();
        whole.sheets();
        whole.shelves();
        whole.trace();
        whole.note("many(5)", x.many(5));
        whole.note("again()", x.again());
        whole.school("kept");
        whole.note("school()", x.school());
        whole.school("told");
        return whole.seen;
    }

    private void note(String call, long answer) {
        seen.put(call, answer);
    }

    private void school(String when) {
        String at = when + " ";
        for (int law = 0; law < 4; law++) {
            note(at + "lawOf(" + law + ")", x.lawOf(law));
        }
        for (int peg = 0; peg < 6; peg++) {
            note(at + "peg(" + peg + ", 0)", x.peg(peg, 0));
        }
        note(at + "many(0)", x.many(0));
        note(at + "state(0)", x.state(0));
        for (int person = 0; person < 8; person++) {
            for (int what = 0; what < 5; what++) {
                note(at + "of(" + person + ", " + what + ")", x.of(person, what));
            }
        }
        int z = x.seed(0);
        x.seed(z);
        note(at + "z", z);
    }

    private void rows() {
        note("many(4)", x.many(4));
        for (int i = 0; i < 5; i++) {
            for (int what = 0; what < 3; what++) {
                note("row(" + i + ", " + what + ")", x.row(i, what));
            }
        }
    }

    private void sheets() {
        for (int sheet = 0; sheet < 4; sheet++) {
            for (int sort = 0; sort < 4; sort++) {
                for (int i = 0; i < 4; i++) {
                    note("item(" + sheet + ", " + sort + ", " + i + ")", x.item(sheet, sort, i));
                }
            }
        }
    }

    private void shelves() {
        for (int shelf = 0; shelf < 4; shelf++) {
            for (int as = 0; as < 14; as++) {
                note("taken(" + shelf + ", " + as + ")", x.taken(shelf, as));
            }
        }
    }

    private void trace() {
        note("many(6)", x.many(6));
        for (int i = 0; i < 6; i++) {
            note("trace(" + i + ")", x.trace(i));
        }
    }
}
