import java.lang.reflect.Method;
import java.util.ArrayList;
import java.util.Arrays;
import java.util.Comparator;
import java.util.List;
import java.util.Random;

/** Runs of 512 calls by chance (of fixed seeds), each answer compared with PlainSchool's. */
final class RandomRunsTest {
    private static final int RUNS = 400, CALLS = 512, TEXT_CALLS_MOST = 40, SHOWN = 12;
    private static final Due DUE = new Due("RandomRunsTest");
    private static final String[] WORDS = {"pupil", "bishop", "burglar", "dean", "cracker", "twin",
        "duck", "drum", "pear", "kite", "ladder", "blank", "at", "age", "had", "weighs", "bell",
        "pull", "room", "chance", ";", ";", "3", "11", "12", "99", "100", "0004", "x", "?", "Pupil"};

    private final Random random;
    private final PicturePegs pegs = new PicturePegs();
    private final PlainSchool plain = new PlainSchool();
    private final List<String> said = new ArrayList<>();

    private RandomRunsTest(long seed) {
        random = new Random(seed);
    }

    public static void main(String[] args) throws Exception {
        List<Method[]> pairs = new ArrayList<>();
        Method[] methods = PicturePegs.class.getDeclaredMethods();
        Arrays.sort(methods, Comparator.comparing(Method::getName));
        for (Method m : methods) {
            if (java.lang.reflect.Modifier.isPublic(m.getModifiers())) {
                pairs.add(new Method[] {m,
                    PlainSchool.class.getDeclaredMethod(m.getName(), m.getParameterTypes())});
            }
        }
        for (int run = 0; run < RUNS && DUE.wrong() < 5; run++) {
            new RandomRunsTest(run).run(run, pairs);
        }
        DUE.end();
    }

    private void run(int run, List<Method[]> pairs) throws Exception {
        int calls = 0;
        if (random.nextInt(3) > 0) {
            calls += people();
        }
        while (calls < CALLS) {
            if (calls + TEXT_CALLS_MOST <= CALLS && random.nextInt(25) == 0) {
                calls += text(random.nextInt(3) > 0 ? goodText() : badText());
                continue;
            }
            Method[] pair = pairs.get(random.nextInt(pairs.size()));
            if (pair[0].getName().equals("feed") && random.nextInt(4) > 0
                    || pair[0].getName().equals("school")) {
                continue;
            }
            calls++;
            if (!compare(run, pair)) {
                return;
            }
        }
    }

    private boolean compare(int run, Method[] pair) throws Exception {
        Class<?>[] types = pair[0].getParameterTypes();
        Object[] values = new Object[types.length];
        for (int i = 0; i < types.length; i++) {
            if (types[i] == long.class) {
                values[i] = random.nextLong();
            } else {
                values[i] = number();
            }
        }
        String call = pair[0].getName() + Arrays.toString(values);
        said.add(call);
        long got = ((Number) pair[0].invoke(pegs, values)).longValue();
        long want = ((Number) pair[1].invoke(plain, values)).longValue();
        DUE.is("run " + run + ", behind " + latest() + call, got, want);
        return got == want;
    }

    private String latest() {
        return said.subList(Math.max(0, said.size() - SHOWN), said.size() - 1) + " ";
    }

    private int number() {
        switch (random.nextInt(20)) {
            case 0: return -1;
            case 1: return random.nextInt(130) - 20;
            case 2: return random.nextInt();
            case 3: return new int[] {Integer.MIN_VALUE, Integer.MAX_VALUE, 60, 61, 99, 100, 9999,
                10000, 40, 41}[random.nextInt(10)];
            case 4: case 5: return random.nextInt(14);
            case 6: case 7: case 8: return random.nextInt(8);
            default: return random.nextInt(4);
        }
    }

    private int people() {
        int n = random.nextInt(9);
        for (int i = 0; i < n; i++) {
            int kind = random.nextInt(6);
            int peg = random.nextInt(6);
            int age = random.nextInt(100);
            int at = random.nextInt(12);
            DUE.is("person", pegs.person(kind, peg, age, at), plain.person(kind, peg, age, at));
        }
        return n;
    }

    private String goodText() {
        StringBuilder text = new StringBuilder();
        int people = 0;
        while (text.length() < 150) {
            int sort = random.nextInt(4);
            if (sort < 2 && people++ < 9) {
                text.append(WORDS[random.nextInt(6)]).append(" at ").append(random.nextInt(12));
                if (random.nextBoolean()) {
                    text.append(" age ").append(random.nextInt(100));
                }
                if (random.nextBoolean()) {
                    text.append(" had ").append(WORDS[6 + random.nextInt(6)]);
                }
            } else if (sort == 2) {
                text.append(WORDS[6 + random.nextInt(6)]).append(" weighs ").append(random.nextInt(100));
            } else {
                int law = random.nextInt(4);
                text.append(WORDS[16 + law]).append(' ').append(random.nextInt(law == 3 ? 100 : 10));
            }
            text.append(random.nextInt(9) == 0 ? " ;  " : ";");
            if (random.nextInt(6) == 0) {
                break;
            }
        }
        return text.toString();
    }

    private String badText() {
        StringBuilder text = new StringBuilder(goodText());
        int changes = 1 + random.nextInt(2);
        for (int i = 0; i < changes; i++) {
            int place = random.nextInt(text.length());
            switch (random.nextInt(4)) {
                case 0: text.deleteCharAt(place); break;
                case 1: text.setCharAt(place, (char) random.nextInt(256)); break;
                case 2: text.insert(place, WORDS[random.nextInt(WORDS.length)]); break;
                default: text.setLength(place); break;
            }
            text.append(' ');
        }
        return text.toString();
    }

    private int text(String text) {
        int calls = 1;
        for (int from = 0; from < text.length(); from += 8) {
            String eight = text.substring(from, Math.min(text.length(), from + 8));
            DUE.is("feed", Due.feed(pegs, eight), Due.bytesTo(plain::feed, eight));
            calls++;
        }
        said.add("school() of '" + text + "'");
        DUE.is("school() of '" + text + "'", pegs.school(), plain.school());
        return calls;
    }
}
