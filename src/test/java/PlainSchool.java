import java.math.BigInteger;
import java.util.ArrayList;
import java.util.HashMap;
import java.util.List;
import java.util.Map;
import java.util.TreeSet;
import java.util.regex.Matcher;
import java.util.regex.Pattern;

/**
 * The document once more, written in another way (people as objects of classes, the host's own
 * exceptions, the library's sets and fractions), for the random runs to compare with.
 */
final class PlainSchool {
    static final String[] KIND_NAMES = {"pupil", "bishop", "burglar", "dean", "cracker", "twin"};
    static final String[] PEG_NAMES = {"duck", "drum", "pear", "kite", "ladder", "blank"};
    static final String[] LAW_NAMES = {"bell", "pull", "room", "chance"};
    static final int[] LAW_MOST = {9, 9, 9, 99};

    static class Pupil {
        World world;
        int n;
        int peg;
        int age;
        int at;
        TreeSet<Integer> knows = new TreeSet<>();

        int lean(int hour) {
            return hour % 10 == world.laws[0] ? world.weights[peg] / 10 : 0;
        }

        int stride() {
            return 1;
        }

        int hooks(int x) {
            world.trace(10);
            return x * 7 - n;
        }

        int leans(int x) {
            world.trace(11);
            return hooks(x) + peg;
        }

        int parts(int x) {
            world.trace(12);
            return x / (peg - n);
        }

        int calls(int x) {
            world.trace(13);
            return leans(x) ^ 50;
        }
    }

    static class Bishop extends Pupil {
        @Override int lean(int hour) {
            return super.lean(hour) + 1;
        }

        @Override int stride() {
            return super.stride() + 1;
        }

        @Override int leans(int x) {
            world.trace(20);
            return super.leans(x) - 3;
        }
    }

    static class Burglar extends Pupil {
        @Override int lean(int hour) {
            return super.lean(hour) - 1;
        }

        @Override int stride() {
            return super.stride() + world.laws[1];
        }

        @Override int hooks(int x) {
            world.trace(30);
            return 0 - super.hooks(x);
        }

        @Override int calls(int x) {
            world.trace(31);
            return super.calls(x) - parts(n);
        }
    }

    static class Dean extends Bishop {
        @Override int lean(int hour) {
            return 2 * super.lean(hour);
        }

        @Override int stride() {
            return super.stride() - 3;
        }

        @Override int parts(int x) {
            world.trace(50);
            return super.parts(x - n) * 3;
        }

        @Override int hooks(int x) {
            world.trace(51);
            return super.hooks(x) + 1;
        }
    }

    static class Cracker extends Burglar {
        @Override int lean(int hour) {
            return super.lean(hour) + age / 10;
        }

        @Override int stride() {
            return 2 * super.stride();
        }

        @Override int hooks(int x) {
            world.trace(40);
            return super.hooks(x) ^ 8;
        }

        @Override int leans(int x) {
            world.trace(41);
            return super.leans(x) + hooks(peg);
        }
    }

    static class Twin extends Pupil {
        @Override int lean(int hour) {
            return world.weights[peg] / 10;
        }

        @Override int stride() {
            return 0;
        }

        @Override int calls(int x) {
            world.trace(60);
            return super.calls(x) * 2;
        }

        @Override int parts(int x) {
            world.trace(61);
            return super.parts(x) - hooks(n);
        }
    }

    static final List<Class<? extends Pupil>> CLASSES = List.of(
            Pupil.class, Bishop.class, Burglar.class, Dean.class, Cracker.class, Twin.class);

    static Pupil make(int kind) {
        switch (kind) {
            case 1: return new Bishop();
            case 2: return new Burglar();
            case 3: return new Dean();
            case 4: return new Cracker();
            case 5: return new Twin();
            default: return new Pupil();
        }
    }

    static class World {
        int[] laws = {4, 1, 2, 20};
        int[] weights = {30, 30, 30, 30, 30, 0};
        List<Pupil> people = new ArrayList<>();
        int hour = 0;
        int z = 1;
        List<Integer> trace;

        World(List<Integer> trace) {
            this.trace = trace;
        }

        void trace(int body) {
            if (trace.size() < 30) {
                trace.add(body);
            }
        }

        World copy() {
            World w = new World(trace);
            w.laws = laws.clone();
            w.weights = weights.clone();
            w.hour = hour;
            w.z = z;
            for (Pupil p : people) {
                w.add(CLASSES.indexOf(p.getClass()), p.peg, p.age, p.at).knows.addAll(p.knows);
            }
            return w;
        }

        Pupil add(int kind, int peg, int age, int at) {
            Pupil p = make(kind);
            p.world = this;
            p.n = people.size();
            p.peg = peg;
            p.age = age;
            p.at = at;
            people.add(p);
            return p;
        }

        void mind(int person, int kind, int peg) {
            Pupil old = people.get(person);
            Pupil p = make(kind);
            p.world = this;
            p.n = person;
            p.peg = peg;
            p.age = old.age;
            p.at = old.at;
            p.knows = old.knows;
            people.set(person, p);
        }

        World hours(int n) {
            for (int i = 0; i < n; i++) {
                for (Pupil p : people) {
                    p.at = (p.at + p.stride() + 120) % 12;
                }
                for (Pupil p : people) {
                    for (Pupil q : people) {
                        if (p != q && p.at == q.at && (p.peg == q.peg || p.peg == 5 || q.peg == 5)) {
                            int a = p.lean(hour);
                            int b = q.lean(hour);
                            if (a != 0 && b != 0 && a - b <= laws[2] && b - a <= laws[2]) {
                                p.knows.add(q.n);
                                q.knows.add(p.n);
                            }
                        }
                    }
                }
                hour++;
            }
            return this;
        }

        int draw() {
            z = z * 1103515245 + 12345;
            return z >>> 16;
        }

        World byDraws() {
            if (!people.isEmpty()) {
                Pupil p = people.get(draw() % people.size());
                if (draw() % 100 < laws[3]) {
                    p.at = draw() % 12;
                }
            }
            return hours(1);
        }

        int pairs() {
            int pairs = 0;
            for (Pupil p : people) {
                pairs += p.knows.headSet(p.n).size();
            }
            return pairs;
        }

        TreeSet<Integer> circle(int person) {
            TreeSet<Integer> circle = new TreeSet<>();
            List<Integer> open = new ArrayList<>(List.of(person));
            while (!open.isEmpty()) {
                int p = open.remove(0);
                if (circle.add(p)) {
                    open.addAll(people.get(p).knows);
                }
            }
            return circle;
        }

        TreeSet<Integer> places() {
            TreeSet<Integer> places = new TreeSet<>();
            for (Pupil p : people) {
                places.add(p.at);
            }
            return places;
        }

        int beside(int person) {
            int n = -1;
            for (Pupil p : people) {
                n += p.at == people.get(person).at ? 1 : 0;
            }
            return n;
        }
    }

    static int bits(Iterable<Integer> set) {
        int bits = 0;
        for (int i : set) {
            bits += 1 << i;
        }
        return bits;
    }

    final List<Integer> trace = new ArrayList<>();
    World w = new World(trace);
    World kept = null;
    StringBuilder tape = new StringBuilder();
    List<int[]> rows = new ArrayList<>();
    final Object[] sheets = new Object[4];
    final Object[] shelves = new Object[4];

    boolean one(int p) {
        return p >= 0 && p < w.people.size();
    }

    static boolean in(int v, int low, int high) {
        return low <= v && v <= high;
    }

    int feed(long eight, int n) {
        if (!in(n, 1, 8)) {
            return -1;
        }
        if (tape.length() + n > 200) {
            return -2;
        }
        for (int i = 0; i < n; i++) {
            tape.append((char) (eight & 255));
            eight >>= 8;
        }
        return tape.length();
    }

    static final class Fault extends Exception {
        private static final long serialVersionUID = 1L;
        final int place;

        Fault(int place) {
            this.place = place;
        }
    }

    /** The text cut into tokens; the last one is the end. */
    static final class Tokens {
        final List<String> words = new ArrayList<>();
        final List<Integer> places = new ArrayList<>();
        int i = 0;

        Tokens(String text) {
            Matcher m = Pattern.compile("[a-z]+|[0-9]+|[^ ]", Pattern.DOTALL).matcher(text);
            while (m.find()) {
                words.add(m.group());
                places.add(m.start());
            }
            words.add("");
            places.add(text.length());
        }

        boolean have(String word) {
            if (!words.get(i).equals(word)) {
                return false;
            }
            i++;
            return true;
        }

        void need(String word) throws Fault {
            if (!have(word)) {
                throw fault();
            }
        }

        int name(String[] names) {
            for (int k = 0; k < names.length; k++) {
                if (names[k].equals(words.get(i))) {
                    return k;
                }
            }
            return -1;
        }

        int number(int most) throws Fault {
            String word = words.get(i);
            if (!word.matches("[0-9]{1,3}") || Integer.parseInt(word) > most) {
                throw fault();
            }
            i++;
            return Integer.parseInt(word);
        }

        Fault fault() {
            return new Fault(places.get(i));
        }
    }

    int school() {
        Tokens t = new Tokens(tape.toString());
        tape.setLength(0);
        World told = new World(trace);
        told.z = w.z;
        try {
            while (!t.have("")) {
                int kind = t.name(KIND_NAMES);
                int peg = t.name(PEG_NAMES);
                int law = t.name(LAW_NAMES);
                if (kind >= 0 && told.people.size() < 8) {
                    t.i++;
                    t.need("at");
                    int at = t.number(11);
                    int age = t.have("age") ? t.number(99) : 0;
                    int had = 0;
                    if (t.have("had")) {
                        had = t.name(PEG_NAMES);
                        if (had < 0) {
                            throw t.fault();
                        }
                        t.i++;
                    }
                    told.add(kind, had, age, at);
                } else if (peg >= 0) {
                    t.i++;
                    t.need("weighs");
                    told.weights[peg] = t.number(99);
                } else if (law >= 0) {
                    t.i++;
                    told.laws[law] = t.number(LAW_MOST[law]);
                } else {
                    throw t.fault();
                }
                t.need(";");
            }
        } catch (Fault fault) {
            return -100 - fault.place;
        }
        w = told;
        rows.clear();
        return w.people.size();
    }

    int set(int law, int v) {
        if (!in(law, 0, 3) || !in(v, 0, LAW_MOST[law])) {
            return -1;
        }
        int was = w.laws[law];
        w.laws[law] = v;
        return was;
    }

    int lawOf(int law) {
        return in(law, 0, 3) ? w.laws[law] : -1;
    }

    int person(int kind, int peg, int age, int at) {
        if (!in(kind, 0, 5) || !in(peg, 0, 5) || !in(age, 0, 99) || !in(at, 0, 11)) {
            return -1;
        }
        return w.people.size() == 8 ? -2 : w.add(kind, peg, age, at).n;
    }

    int of(int person, int what) {
        if (!one(person) || !in(what, 0, 5)) {
            return -1;
        }
        Pupil p = w.people.get(person);
        int[] all = {CLASSES.indexOf(p.getClass()), p.peg, p.age, p.at, bits(p.knows), w.beside(person)};
        return all[what];
    }

    int leans(int person, int hour) {
        return one(person) && in(hour, 0, 9999) ? 1000 + w.people.get(person).lean(hour) : -1;
    }

    int strides(int person) {
        return one(person) ? 1000 + w.people.get(person).stride() : -1;
    }

    int mind(int person, int kind, int peg) {
        if (!one(person) || !in(kind, 0, 5) || !in(peg, 0, 5)) {
            return -1;
        }
        int was = of(person, 0);
        w.mind(person, kind, peg);
        return was;
    }

    int age(int person, int v) {
        if (!one(person) || !in(v, 0, 99)) {
            return -1;
        }
        int was = of(person, 2);
        w.people.get(person).age = v;
        return was;
    }

    int bring(int person, int place) {
        if (!one(person) || !in(place, 0, 11)) {
            return -1;
        }
        int was = of(person, 3);
        w.people.get(person).at = place;
        return was;
    }

    int know(int person, int other, int v) {
        if (!one(person) || !one(other) || person == other || !in(v, 0, 1)) {
            return -1;
        }
        Pupil p = w.people.get(person);
        Pupil q = w.people.get(other);
        int was = p.knows.contains(other) ? 1 : 0;
        if (v == 1) {
            p.knows.add(other);
            q.knows.add(person);
        } else {
            p.knows.remove(other);
            q.knows.remove(person);
        }
        return was;
    }

    int weigh(int peg, int v) {
        if (!in(peg, 0, 5) || !in(v, 0, 99)) {
            return -1;
        }
        int was = w.weights[peg];
        w.weights[peg] = v;
        return was;
    }

    int peg(int peg, int what) {
        if (!in(peg, 0, 5) || !in(what, 0, 1)) {
            return -1;
        }
        TreeSet<Integer> had = new TreeSet<>();
        for (Pupil p : w.people) {
            if (p.peg == peg) {
                had.add(p.n);
            }
        }
        return what == 0 ? w.weights[peg] : bits(had);
    }

    int hours(int n) {
        return in(n, 1, 60) ? w.hours(n).pairs() : -1;
    }

    int seed(int v) {
        int was = w.z;
        w.z = v;
        return was;
    }

    int hour() {
        return w.byDraws().pairs();
    }

    int found(int n) {
        if (!in(n, 1, 30)) {
            return -1;
        }
        int plain = w.copy().hours(1).pairs();
        int z = w.z;
        int found = 0;
        for (int i = 0; i < n; i++) {
            World t = w.copy();
            t.z = z;
            found += t.byDraws().pairs() > plain ? 1 : 0;
            z = t.z;
        }
        return found;
    }

    int state(int what) {
        TreeSet<Integer> lonely = new TreeSet<>();
        TreeSet<Integer> circles = new TreeSet<>();
        for (Pupil p : w.people) {
            if (p.knows.isEmpty()) {
                lonely.add(p.n);
            }
            circles.add(w.circle(p.n).first());
        }
        int weight = 0;
        for (int v : w.weights) {
            weight += v;
        }
        int[] all = {w.hour, w.pairs(), bits(lonely), bits(w.places()), circles.size(), weight};
        return in(what, 0, 5) ? all[what] : -1;
    }

    int ahead(int person, int n, int what) {
        if (!one(person) || !in(n, 0, 60) || !in(what, 0, 1)) {
            return -1;
        }
        Pupil p = w.copy().hours(n).people.get(person);
        return what == 0 ? p.at : bits(p.knows);
    }

    int meet(int person, int other) {
        if (!one(person) || !one(other) || person == other) {
            return -1;
        }
        for (int n = 0; n <= 60; n++) {
            if (w.copy().hours(n).people.get(person).knows.contains(other)) {
                return n;
            }
        }
        return -3;
    }

    int gather() {
        for (int n = 0; n <= 60; n++) {
            if (w.copy().hours(n).places().size() < 2) {
                return n;
            }
        }
        return -3;
    }

    int alone(int person) {
        if (!one(person)) {
            return -1;
        }
        for (int n = 0; n <= 60; n++) {
            if (w.copy().hours(n).beside(person) == 0) {
                return n;
            }
        }
        return -3;
    }

    private int choice(int person, int n, int trait, int choices) {
        if (!one(person) || !in(n, 1, 20)) {
            return -1;
        }
        int best = -1;
        int most = -1;
        for (int c = choices - 1; c >= 0; c--) {
            World t = w.copy();
            Pupil p = t.people.get(person);
            if (trait == 0) {
                t.mind(person, c, p.peg);
            } else if (trait == 1) {
                p.peg = c;
            } else {
                p.at = c;
            }
            int knows = t.hours(n).people.get(person).knows.size();
            if (knows >= most) {
                most = knows;
                best = c;
            }
        }
        return best;
    }

    int pegFor(int person, int n) {
        return choice(person, n, 1, 6);
    }

    int kindFor(int person, int n) {
        return choice(person, n, 0, 6);
    }

    int placeFor(int person, int n) {
        return choice(person, n, 2, 12);
    }

    int circle(int person) {
        return one(person) ? bits(w.circle(person)) : -1;
    }

    int apart() {
        int best = -3;
        for (int set = 1023; set >= 0; set--) {
            Map<String, Integer> seen = new HashMap<>();
            for (Pupil p : w.people) {
                StringBuilder leans = new StringBuilder();
                for (int rest = 0; rest < 10; rest++) {
                    if ((set >> rest & 1) == 1) {
                        leans.append(p.lean(rest)).append(' ');
                    }
                }
                seen.put(leans.toString(), p.n);
            }
            if (seen.size() == w.people.size()
                    && (best < 0 || Integer.bitCount(set) <= Integer.bitCount(best))) {
                best = set;
            }
        }
        return best;
    }

    private static int length(Object row) {
        return java.lang.reflect.Array.getLength(row);
    }

    private static int number(Object row, int i) {
        return (int) java.lang.reflect.Array.getLong(row, i);
    }

    int fits(int sheet, int person, int what) {
        if (!in(sheet, 0, 3) || !one(person) || !in(what, 0, 1)) {
            return -1;
        }
        Object row = sheets[sheet];
        if (row == null) {
            return -11;
        }
        TreeSet<Integer> fit = new TreeSet<>();
        for (int peg = 0; peg < 6; peg++) {
            World t = w.copy();
            t.people.get(person).peg = peg;
            boolean as = true;
            for (int i = 0; i < length(row); i++) {
                int knows = t.hours(1).people.get(person).knows.size();
                as &= number(row, i) == -1 || number(row, i) == knows;
            }
            if (as) {
                fit.add(peg);
            }
        }
        return what == 0 ? fit.size() : fit.isEmpty() ? -3 : fit.first();
    }

    private static long part(BigInteger above, BigInteger below, int part) {
        BigInteger common = above.gcd(below);
        return (part == 0 ? above : below).divide(common).longValueExact();
    }

    long odds(int n, int k, int part) {
        if (!in(n, 0, 8) || !in(k, 0, n) || !in(part, 0, 1)) {
            return -1;
        }
        BigInteger above = BigInteger.ZERO;
        for (int years = 0; years < 1 << n; years++) {
            if (Integer.bitCount(years) == k) {
                above = above.add(BigInteger.valueOf(w.laws[3]).pow(k)
                        .multiply(BigInteger.valueOf(100 - w.laws[3]).pow(n - k)));
            }
        }
        return part(above, BigInteger.valueOf(100).pow(n), part);
    }

    long hope(int n, int part) {
        if (!in(n, 0, 99) || !in(part, 0, 1)) {
            return -1;
        }
        return part(BigInteger.valueOf(n * w.laws[3]), BigInteger.valueOf(100), part);
    }

    private List<int[]> rowsOf(int person, int n) {
        List<int[]> list = new ArrayList<>();
        for (int i = 1; i <= n; i++) {
            Pupil p = w.copy().hours(i).people.get(person);
            list.add(new int[] {p.at, bits(p.knows), p.lean(w.hour + i - 1)});
        }
        return list;
    }

    int prove(int person, int n) {
        if (!one(person) || !in(n, 1, 10)) {
            return -1;
        }
        rows = rowsOf(person, n);
        return n;
    }

    int row(int i, int what) {
        return in(i, 0, rows.size() - 1) && in(what, 0, 2) ? rows.get(i)[what] : -999;
    }

    int alterRow(int i, int what, int v) {
        int was = row(i, what);
        if (in(i, 0, rows.size() - 1) && in(what, 0, 2)) {
            rows.get(i)[what] = v;
        }
        return was;
    }

    int judge(int person) {
        if (!one(person)) {
            return -1;
        }
        List<int[]> right = rowsOf(person, rows.size());
        for (int i = 0; i < rows.size(); i++) {
            if (!java.util.Arrays.equals(right.get(i), rows.get(i))) {
                return i + 1;
            }
        }
        return 0;
    }

    int minds(int sheet, int i, int person, int n) {
        if (!in(sheet, 0, 3) || !one(person) || !in(n, 0, 8) || !in(n, 0, w.people.size() - person)) {
            return -1;
        }
        if (sheets[sheet] == null) {
            return -11;
        }
        if (!(sheets[sheet] instanceof byte[])) {
            return -13;
        }
        byte[] row = (byte[]) sheets[sheet];
        if (!in(i, 0, row.length) || n > row.length - i) {
            return -12;
        }
        for (int j = 0; j < n; j++) {
            w.people.get(person + j).age = row[i + j] < 0 ? 0 : row[i + j] > 99 ? 99 : row[i + j];
        }
        return n;
    }

    int sheet(int sheet, int sort, int n) {
        if (!in(sheet, 0, 3) || !in(sort, -1, 3) || sort != -1 && n > 40) {
            return -1;
        }
        try {
            switch (sort) {
                case 0: sheets[sheet] = new byte[n]; break;
                case 1: sheets[sheet] = new short[n]; break;
                case 2: sheets[sheet] = new int[n]; break;
                case 3: sheets[sheet] = new long[n]; break;
                default: sheets[sheet] = null; break;
            }
        } catch (NegativeArraySizeException e) {
            return -14;
        }
        return 1;
    }

    int put(int sheet, int i, int v) {
        if (!in(sheet, 0, 3)) {
            return -1;
        }
        Object row = sheets[sheet];
        try {
            if (row instanceof byte[]) {
                ((byte[]) row)[i] = (byte) v;
            } else if (row instanceof short[]) {
                ((short[]) row)[i] = (short) v;
            } else if (row instanceof int[]) {
                ((int[]) row)[i] = v;
            } else if (row != null) {
                ((long[]) row)[i] = v;
            } else {
                return -11;
            }
        } catch (ArrayIndexOutOfBoundsException e) {
            return -12;
        }
        return 1;
    }

    int item(int sheet, int sort, int i) {
        if (!in(sheet, 0, 3) || !in(sort, 0, 3)) {
            return -1;
        }
        Object row = sheets[sheet];
        try {
            if (row == null) {
                return -11;
            }
            switch (sort) {
                case 0: return ((byte[]) row)[i];
                case 1: return ((short[]) row)[i];
                case 2: return ((int[]) row)[i];
                default: return (int) ((long[]) row)[i];
            }
        } catch (ClassCastException e) {
            return -13;
        } catch (ArrayIndexOutOfBoundsException e) {
            return -12;
        }
    }

    int shelf(int shelf, int what, int n) {
        if (!in(shelf, 0, 3) || !in(what, 0, 2) || what == 0 && !one(n) || what == 1 && !in(n, 0, 3)) {
            return -1;
        }
        shelves[shelf] = what == 0 ? (Object) Integer.valueOf(n) : what == 1 ? sheets[n] : null;
        return 1;
    }

    private Object thing(int shelf) {
        Object held = shelves[shelf];
        if (held instanceof Integer) {
            return one((Integer) held) ? w.people.get((Integer) held) : null;
        }
        return held;
    }

    int taken(int shelf, int as) {
        if (!in(shelf, 0, 3) || !in(as, 0, 5) && !in(as, 10, 13)) {
            return -1;
        }
        Object held = thing(shelf);
        if (held == null) {
            return -11;
        }
        try {
            switch (as) {
                case 10: return ((byte[]) held).length;
                case 11: return ((short[]) held).length;
                case 12: return ((int[]) held).length;
                case 13: return ((long[]) held).length;
                default: return CLASSES.get(as).cast(held).n;
            }
        } catch (ClassCastException e) {
            return -13;
        }
    }

    int act(int shelf, int act, int x) {
        trace.clear();
        if (!in(shelf, 0, 3) || !in(act, 0, 3) || !(thing(shelf) instanceof Pupil)) {
            return 0;
        }
        Pupil p = (Pupil) thing(shelf);
        try {
            switch (act) {
                case 0: return p.hooks(x);
                case 1: return p.leans(x);
                case 2: return p.parts(x);
                default: return p.calls(x);
            }
        } catch (ArithmeticException e) {
            return -15;
        }
    }

    int trace(int i) {
        return in(i, 0, trace.size() - 1) ? trace.get(i) : -3;
    }

    int many(int what) {
        int knowing = 0;
        TreeSet<Integer> had = new TreeSet<>();
        for (Pupil p : w.people) {
            knowing += p.knows.isEmpty() ? 0 : 1;
            had.add(p.peg);
        }
        int[] all = {w.people.size(), knowing, had.size(), w.places().size(), rows.size(),
            tape.length(), trace.size()};
        return in(what, 0, 6) ? all[what] : -1;
    }

    int keep() {
        kept = w.copy();
        return 1;
    }

    int again() {
        if (kept == null) {
            return -3;
        }
        w = kept.copy();
        return w.people.size();
    }
}
