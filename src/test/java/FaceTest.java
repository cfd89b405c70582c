import java.io.IOException;
import java.lang.reflect.Constructor;
import java.lang.reflect.Field;
import java.lang.reflect.Method;
import java.lang.reflect.Modifier;
import java.nio.file.Files;
import java.nio.file.Path;
import java.util.ArrayList;
import java.util.Arrays;
import java.util.List;
import java.util.TreeSet;
import java.util.regex.Matcher;
import java.util.regex.Pattern;
import java.util.stream.Collectors;

/** The class's face is the document's, and the source keeps to those rules of LANGUAGE.md that can be seen by eye. */
public final class FaceTest {
    private static final String[] FACE = {
        "int feed(int, int, int, int, int)", "int back(int)", "int read()", "int place()", "int man(int, int)", "int post(int)",
        "int ship(int)", "boolean hide(int, boolean)", "int stand(int, int, int, int)", "int watches(int)", "boolean undo()",
        "int likely(int, int, boolean)", "int orders(int)", "int mean(int, int, boolean)", "int most(int, int, boolean)",
        "int risk(int, int, boolean)", "int safest(int, int)", "int safe(int, boolean)", "int roster(int)", "int handy(int)",
        "int better(boolean)", "int then(int, int)", "int often(int, int, int)", "int ends(int)", "int steady(int, int)",
        "int spared(int, int)", "int broom()", "int year(int, int)", "int weds(int, int)", "int tell(int)",
        "int cheats(int, int, boolean)", "int surely(int)", "int log(int, int)", "int began(int, int)", "int forget()",
        "boolean hold(int)", "boolean restore(int)", "int count(int)"};
    private static final String[] OUTSIDE = {"throw", "throws", "try", "catch", "synchronized", "assert", "package", "native",
        "volatile", "transient", "Object", "Class", "System.out", "Exact", "hashCode", "toString", "equals", "Random", "Thread",
        "Iterator", "Stream", "->", "::", "@"};
    private static int wrong = 0;

    public static void main(String[] args) throws IOException {
        members();
        String source = Files.readString(Path.of("src/main/java/StrawWatch.java"));
        source(source);
        methods(source);
        System.out.println(wrong == 0 ? "the face and the source are in order" : wrong + " things are out of order");
        if (wrong != 0) System.exit(1);
    }

    private static void check(boolean right, String what) {
        if (right) return;
        wrong++;
        System.out.println(what);
    }

    private static void members() {
        check(Modifier.isFinal(StrawWatch.class.getModifiers()) && Modifier.isPublic(StrawWatch.class.getModifiers()), "public and final");
        TreeSet<String> found = new TreeSet<>();
        for (Method m : StrawWatch.class.getDeclaredMethods()) {
            if (Modifier.isPrivate(m.getModifiers()) || m.isSynthetic()) continue;
            check(Modifier.isPublic(m.getModifiers()) && !Modifier.isStatic(m.getModifiers()), "not public: " + m);
            found.add(m.getReturnType() + " " + m.getName() + "(" + Arrays.stream(m.getParameterTypes()).map(Class::toString).collect(Collectors.joining(", ")) + ")");
        }
        check(found.equals(new TreeSet<>(Arrays.asList(FACE))), "the face is " + found);
        for (Field f : StrawWatch.class.getDeclaredFields())
            check(Modifier.isPrivate(f.getModifiers()) || f.getName().equals("NONE"), "not private: " + f);
        Constructor<?>[] made = StrawWatch.class.getDeclaredConstructors();
        check(made.length == 1 && made[0].getParameterCount() == 0 && Modifier.isPublic(made[0].getModifiers()), "the constructor");
        Class<?>[] inside = StrawWatch.class.getDeclaredClasses();
        check(inside.length <= 12, "classes inside: " + inside.length);
        for (Class<?> c : inside) {
            check(Modifier.isStatic(c.getModifiers()), "not static: " + c);
            long fields = Arrays.stream(c.getDeclaredFields()).filter(f -> !Modifier.isStatic(f.getModifiers())).count();
            check(fields <= 20, "fields of " + c + ": " + fields);
            for (Field f : c.getDeclaredFields())
                check(!Modifier.isStatic(f.getModifiers()) || Modifier.isFinal(f.getModifiers()), "static and not final: " + f);
            for (Method m : c.getDeclaredMethods())
                check(Arrays.stream(FACE).noneMatch(f -> f.contains(" " + m.getName() + "(")), "bears a public method's name: " + m);
        }
    }

    private static void source(String source) {
        String bare = source.replaceAll("(?s)/\\*.*?\\*/", "").replaceAll("//[^\n]*", "").replaceAll("\"[^\"\n]*\"", "\"\"");
        for (String word : OUTSIDE) {
            String pattern = Character.isLetter(word.charAt(0)) ? "\\b" + Pattern.quote(word) + "\\b" : Pattern.quote(word);
            check(!Pattern.compile(pattern).matcher(bare).find(), "not in this part of Java: " + word);
        }
        Matcher imports = Pattern.compile("import ([^;]*);").matcher(bare);
        while (imports.find()) check(List.of("java.util.Arrays").contains(imports.group(1)), "import " + imports.group(1));
        check(source.chars().allMatch(c -> c == '\n' || c >= 32 && c < 127), "signs are 1 to 127");
    }

    private static void methods(String source) {
        String[] lines = source.split("\n");
        Pattern head = Pattern.compile("^( {4}| {8})(?:(?:public|private|static|final) )*(?:[\\w\\[\\]<>]+ )?(\\w+)\\(([^()]*)\\) \\{$");
        List<String> seen = new ArrayList<>();
        for (int i = 0; i < lines.length; i++) {
            Matcher m = head.matcher(lines[i]);
            if (!m.matches() || List.of("if", "for", "while", "switch").contains(m.group(2))) continue;
            int end = i;
            while (end < lines.length && !lines[end].equals(m.group(1) + "}")) end++;
            seen.add(m.group(2));
            check(end - i < 60, m.group(2) + " has " + (end - i + 1) + " lines");
            check(m.group(3).split(",").length <= 7, m.group(2) + " has too many parameters");
        }
        check(seen.size() > 100, "methods seen: " + seen.size());
    }
}
