import java.lang.reflect.Constructor;
import java.lang.reflect.Field;
import java.lang.reflect.Method;
import java.lang.reflect.Modifier;
import java.util.Arrays;
import java.util.Set;
import java.util.TreeSet;

/** The document's face, and no other member that is not private. */
final class FaceTest {
    private static final Due DUE = new Due("FaceTest");
    private static final String[] METHODS = {
        "int feed(long,int)", "int school()", "int set(int,int)", "int lawOf(int)",
        "int person(int,int,int,int)", "int of(int,int)", "int leans(int,int)", "int strides(int)",
        "int mind(int,int,int)", "int age(int,int)", "int bring(int,int)", "int know(int,int,int)",
        "int weigh(int,int)", "int peg(int,int)", "int hours(int)", "int seed(int)", "int hour()",
        "int found(int)", "int state(int)", "int ahead(int,int,int)", "int meet(int,int)",
        "int gather()", "int alone(int)", "int pegFor(int,int)", "int kindFor(int,int)",
        "int placeFor(int,int)", "int circle(int)", "int apart()", "int fits(int,int,int)",
        "long odds(int,int,int)", "long hope(int,int)", "int prove(int,int)", "int row(int,int)",
        "int alterRow(int,int,int)", "int judge(int)", "int minds(int,int,int,int)",
        "int sheet(int,int,int)", "int put(int,int,int)", "int item(int,int,int)",
        "int shelf(int,int,int)", "int taken(int,int)", "int act(int,int,int)", "int trace(int)",
        "int many(int)", "int keep()", "int again()",
    };

    public static void main(String[] args) {
        DUE.is("BAD", PicturePegs.BAD, -1);
        DUE.is("FULL", PicturePegs.FULL, -2);
        DUE.is("NONE", PicturePegs.NONE, -3);
        int modifiers = PicturePegs.class.getModifiers();
        DUE.holds("public and final", Modifier.isPublic(modifiers) && Modifier.isFinal(modifiers));
        methods();
        fields();
        Constructor<?>[] constructors = PicturePegs.class.getDeclaredConstructors();
        DUE.is("constructors", constructors.length, 1);
        DUE.holds("the constructor is public", Modifier.isPublic(constructors[0].getModifiers()));
        DUE.is("its parameters", constructors[0].getParameterCount(), 0);
        for (Class<?> inside : PicturePegs.class.getDeclaredClasses()) {
            int bits = inside.getModifiers();
            DUE.holds(inside.getName() + " is static", Modifier.isStatic(bits));
            DUE.holds(inside.getName() + " is hidden",
                    !Modifier.isPublic(bits) && !Modifier.isProtected(bits));
        }
        DUE.end();
    }

    private static void methods() {
        Set<String> face = new TreeSet<>(Arrays.asList(METHODS));
        Set<String> names = new TreeSet<>();
        for (String method : METHODS) {
            names.add(method.substring(method.indexOf(' ') + 1, method.indexOf('(')));
        }
        Set<String> shown = new TreeSet<>();
        for (Method method : PicturePegs.class.getDeclaredMethods()) {
            if (Modifier.isPrivate(method.getModifiers())) {
                DUE.holds("no public name: " + method, !names.contains(method.getName()));
                continue;
            }
            DUE.holds("public: " + method, Modifier.isPublic(method.getModifiers())
                    && !Modifier.isStatic(method.getModifiers()));
            shown.add(signature(method));
        }
        DUE.holds("the methods are the document's: " + shown, shown.equals(face));
    }

    private static String signature(Method method) {
        StringBuilder text = new StringBuilder();
        text.append(method.getReturnType()).append(' ').append(method.getName()).append('(');
        Class<?>[] types = method.getParameterTypes();
        for (int i = 0; i < types.length; i++) {
            text.append(i == 0 ? "" : ",").append(types[i]);
        }
        return text.append(')').toString();
    }

    private static void fields() {
        Set<String> shown = new TreeSet<>();
        for (Field field : PicturePegs.class.getDeclaredFields()) {
            if (!Modifier.isPrivate(field.getModifiers())) {
                shown.add(field.getName());
            }
            if (Modifier.isStatic(field.getModifiers())) {
                DUE.holds("final: " + field, Modifier.isFinal(field.getModifiers()));
            }
        }
        DUE.holds("the fields are the document's: " + shown,
                shown.equals(Set.of("BAD", "FULL", "NONE")));
    }
}
