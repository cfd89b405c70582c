import java.lang.reflect.Constructor;
import java.lang.reflect.Field;
import java.lang.reflect.Method;
import java.lang.reflect.Modifier;
import java.util.Arrays;
import java.util.TreeSet;
import java.util.stream.Collectors;

/** The class's face is the document's (rule 1 of LANGUAGE.md); RulesTest looks at what is inside. */
public final class FaceTest {
    private static final String[] FACE = {
        "int feed(int, int, int, int, int)", "int back(int)", "int read()", "int place()", "int man(int, int)", "int post(int)",
        "int ship(int)", "boolean hide(int, boolean)", "int stand(int, int, int, int)", "int watches(int)", "boolean undo()",
        "int likely(int, int, boolean)", "int orders(int)", "int mean(int, int, boolean)", "int most(int, int, boolean)",
        "int risk(int, int, boolean)", "int safest(int, int)", "int safe(int, boolean)", "int roster(int)", "int handy(int)",
        "int better(boolean)", "int then(int, int)", "int often(int, int, int)", "int ends(int)", "int steady(int, int)",
        "int spared(int, int)", "int broom()", "int year(int, int)", "int weds(int, int)", "int tell(int)",
        "int cheats(int, int, boolean)", "int surely(int)", "int log(int, int)", "int began(int, int)", "int forget()",
        "boolean hold(int)", "boolean restore(int)", "int count(int)"};
    private static int wrong = 0;

    public static void main(String[] args) {
        members();
        System.out.println(wrong == 0 ? "the face is in order" : wrong + " things are out of order");
        if (wrong != 0) System.exit(1);
    }

    private static void check(boolean right, String what) {
        if (right) return;
        wrong++;
        System.out.println(what);
    }

    private static void members() {
        check(Modifier.isFinal(StrawWatch.class.getModifiers()) && Modifier.isPublic(StrawWatch.class.getModifiers()), "public and final");
        TreeSet<String> found = new TreeSet<>();
        for (Method m : StrawWatch.class.getDeclaredMethods()) {
            if (Modifier.isPrivate(m.getModifiers()) || m.isSynthetic()) continue;
            check(Modifier.isPublic(m.getModifiers()) && !Modifier.isStatic(m.getModifiers()), "not public: " + m);
            found.add(m.getReturnType() + " " + m.getName() + "(" + Arrays.stream(m.getParameterTypes()).map(Class::toString).collect(Collectors.joining(", ")) + ")");
        }
        check(found.equals(new TreeSet<>(Arrays.asList(FACE))), "the face is " + found);
        for (Field f : StrawWatch.class.getDeclaredFields())
            check(Modifier.isPrivate(f.getModifiers()) || f.getName().equals("NONE"), "not private: " + f);
        Constructor<?>[] made = StrawWatch.class.getDeclaredConstructors();
        check(made.length == 1 && made[0].getParameterCount() == 0 && Modifier.isPublic(made[0].getModifiers()), "the constructor");
        privateNames(StrawWatch.class);
        for (Class<?> c : StrawWatch.class.getDeclaredClasses()) privateNames(c);
    }

    private static void privateNames(Class<?> c) {
        for (Method m : c.getDeclaredMethods()) {
            boolean ofTheFace = c == StrawWatch.class && Modifier.isPublic(m.getModifiers());
            check(ofTheFace || Arrays.stream(FACE).noneMatch(f -> f.contains(" " + m.getName() + "(")), "bears a public method's name: " + m);
        }
    }
}
