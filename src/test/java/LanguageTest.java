import java.lang.reflect.Field;
import java.lang.reflect.Member;
import java.lang.reflect.Method;
import java.lang.reflect.Modifier;
import java.nio.file.Files;
import java.nio.file.Path;
import java.util.Arrays;
import java.util.Set;
import java.util.TreeSet;
import java.util.regex.Matcher;
import java.util.regex.Pattern;

/** The face of the document, and the rules of LANGUAGE.md that the source or the class shows. */
public final class LanguageTest {
    private static final Path SOURCE = Path.of("src/main/java/FieldLeaves.java");
    private static final String[] FACE = {
        "int make(int,int,int)", "int clear(int)", "int share(int,int)", "int same(int,int)", "int cls(int)",
        "int is(int,int)", "long get(int,int)", "int set(int,int,long)", "int link(int,int,int)",
        "int follow(int,int,int)", "int row(int,int)", "int put(int,int,int)", "int length(int)",
        "long count(int,int)", "int call(int,int)", "int raise(int)", "int passes(int,int)", "int passed()",
        "int leaves(int)", "long leaf(int,int)", "int alter(int,long)", "int back(int)", "int equal(int,int)",
        "int changed(int,int,int)"
    };
    private static final String[] NOT_THERE = {
        "\\b(throw|throws|try|catch|finally|synchronized|assert)\\b", "\\b(package|protected)\\b",
        "\\b(hashCode|Float|Double|Object|Thread|Random)\\b", "\\bstatic\\s*\\{",
        "\\w+Exact\\s*\\(", "::", "\\bSystem\\.(?!arraycopy\\b)",
        "\\bimport (?!java\\.util\\.(ArrayList|List|Arrays|Iterator);)", "(?m)^(?!.*\\b(case|default)\\b).*->"
    };

    private static final Set<Class<?>> CONSTANTS = Set.of(int.class, long.class, boolean.class, char.class,
            String.class, int[].class, long[].class, char[].class, byte[].class);

    private static final Check check = new Check();

    public static void main(String[] args) throws Exception {
        face();
        constants();
        members(FieldLeaves.class);
        Class<?>[] all = FieldLeaves.class.getDeclaredClasses();
        check.due("at most twelve classes", all.length < 12 ? 1 : 0, 1);
        limits(FieldLeaves.class);
        for (Class<?> inside : all) {
            check.due(inside + " is static", Modifier.isStatic(inside.getModifiers()) ? 1 : 0, 1);
            staticFieldsAreFinal(inside);
            limits(inside);
        }
        source();
        shortMethods();
        check.end();
    }

    private static String told(Method method) {
        String parameters = Arrays.toString(Arrays.stream(method.getParameterTypes()).map(Class::getName).toArray());
        return method.getReturnType() + " " + method.getName() + "("
                + parameters.substring(1, parameters.length() - 1).replace(" ", "") + ")";
    }

    private static void face() {
        Set<String> there = new TreeSet<>();
        Set<String> names = new TreeSet<>();
        for (Method method : FieldLeaves.class.getDeclaredMethods()) {
            if (Modifier.isPublic(method.getModifiers())) {
                there.add(told(method));
                names.add(method.getName());
            }
        }
        Set<String> due = new TreeSet<>(Arrays.asList(FACE));
        check.due("the face is " + there + ", due is " + due, there.equals(due) ? 1 : 0, 1);
        for (Method method : FieldLeaves.class.getDeclaredMethods()) {
            if (!Modifier.isPublic(method.getModifiers())) {
                check.due("private, named as a public one: " + method, names.contains(method.getName()) ? 1 : 0, 0);
            }
        }
        check.due("constructors", FieldLeaves.class.getConstructors().length, 1);
        check.due("public and final", FieldLeaves.class.getModifiers() & (Modifier.PUBLIC | Modifier.FINAL),
                Modifier.PUBLIC | Modifier.FINAL);
    }

    private static void constants() {
        check.due("BAD", FieldLeaves.BAD, -1);
        check.due("FULL", FieldLeaves.FULL, -3);
        check.due("NONE", FieldLeaves.NONE, -4);
        check.due("public fields", FieldLeaves.class.getFields().length, 3);
    }

    private static void members(Class<?> of) {
        Member[][] all = {of.getDeclaredFields(), of.getDeclaredMethods(), of.getDeclaredConstructors()};
        for (Member[] members : all) {
            for (Member member : members) {
                int modifiers = member.getModifiers();
                check.due("public or private: " + member,
                        Modifier.isPublic(modifiers) || Modifier.isPrivate(modifiers) ? 1 : 0, 1);
            }
        }
        staticFieldsAreFinal(of);
    }

    private static void staticFieldsAreFinal(Class<?> of) {
        for (Field field : of.getDeclaredFields()) {
            int modifiers = field.getModifiers();
            if (Modifier.isStatic(modifiers)) {
                check.due("final: " + field, Modifier.isFinal(modifiers) ? 1 : 0, 1);
                check.due("a type that a constant may have: " + field, CONSTANTS.contains(field.getType()) ? 1 : 0, 1);
            }
        }
    }

    private static void limits(Class<?> of) {
        for (Method method : of.getDeclaredMethods()) {
            check.due("at most seven parameters: " + method, method.getParameterCount() <= 7 ? 1 : 0, 1);
        }
        long fields = Arrays.stream(of.getDeclaredFields()).filter(f -> !Modifier.isStatic(f.getModifiers())).count();
        check.due("at most twenty fields: " + of, fields <= 20 ? 1 : 0, 1);
    }

    /** A method ends at the first brace that stands as far in as its first line. */
    private static void shortMethods() throws Exception {
        Matcher matcher = Pattern.compile("(?ms)^( {4}| {8})(\\w[^\n;={]*\\([^\n;]*\\) \\{)\n.*?^\\1\\}$")
                .matcher(Files.readString(SOURCE));
        int methods = 0;
        int from = 0;
        while (matcher.find(from)) {
            methods++;
            long lines = matcher.group().lines().count();
            check.due("at most sixty lines: " + matcher.group(2), lines <= 60 ? 1 : 0, 1);
            from = matcher.end();
        }
        check.due("methods were found", methods > FACE.length ? 1 : 0, 1);
    }

    private static void source() throws Exception {
        String code = Files.readString(SOURCE).replaceAll("(?s)/\\*.*?\\*/", "").replaceAll("//[^\n]*", "");
        for (String pattern : NOT_THERE) {
            Matcher matcher = Pattern.compile(pattern).matcher(code);
            check.due("in the source: " + pattern, matcher.find() ? 1 : 0, 0);
        }
    }
}
