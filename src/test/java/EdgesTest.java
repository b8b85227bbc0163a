import java.lang.reflect.InvocationTargetException;
import java.lang.reflect.Method;
import java.util.Arrays;
import java.util.Comparator;
import java.util.regex.Matcher;
import java.util.regex.Pattern;

/**
 * Runs the boundary tests: one for each sentence of the document that names such a case, each a
 * method promiseNN_.. of the classes below, NN being the promise's number.
 */
final class EdgesTest {
    private static final Class<?>[] GROUPS = {TextEdges.class, PeopleEdges.class, HoursEdges.class,
        TriedEdges.class, RowsEdges.class, SheetsEdges.class, ShelvesEdges.class};
    private static final Pattern NAME = Pattern.compile("promise(\\d\\d)_\\w+");
    private static final int PROMISES = 47;

    private final Due due = new Due("EdgesTest");
    private final int[] testsOf = new int[PROMISES + 1];
    private int tests = 0;

    public static void main(String[] args) throws IllegalAccessException {
        EdgesTest all = new EdgesTest();
        for (Class<?> group : GROUPS) {
            all.run(group);
        }
        for (int promise = 1; promise <= PROMISES; promise++) {
            all.due.holds("a boundary test of promise " + promise, all.testsOf[promise] > 0);
        }
        System.out.println("EdgesTest: " + all.tests + " boundary tests");
        all.due.end();
    }

    private void run(Class<?> group) throws IllegalAccessException {
        Method[] methods = group.getDeclaredMethods();
        Arrays.sort(methods, Comparator.comparing(Method::getName));
        for (Method method : methods) {
            Matcher name = NAME.matcher(method.getName());
            if (name.matches()) {
                testsOf[Integer.parseInt(name.group(1))]++;
                tests++;
                run(method);
            }
        }
    }

    private void run(Method test) throws IllegalAccessException {
        Due own = new Due(test.getName());
        try {
            test.invoke(null, own);
        } catch (InvocationTargetException thrown) {
            System.out.println(test.getName() + " threw " + thrown.getCause());
            due.holds(test.getName() + " ends without a throw", false);
        }
        due.holds(test.getName(), own.asked() > 0 && own.wrong() == 0);
    }
}
