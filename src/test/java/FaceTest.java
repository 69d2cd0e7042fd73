import java.io.IOException;
import java.lang.reflect.Constructor;
import java.lang.reflect.Field;
import java.lang.reflect.Method;
import java.lang.reflect.Modifier;
import java.nio.charset.StandardCharsets;
import java.nio.file.Files;
import java.nio.file.Path;
import java.util.Arrays;
import java.util.Set;
import java.util.TreeSet;
import java.util.regex.Matcher;
import java.util.regex.Pattern;

/** The face of the class, and the rules of LANGUAGE.md that can be seen from outside. */
public final class FaceTest {
    private static final Due due = new Due();
    private static final String[] FACE = {
        "int write(int)", "int wipe()", "int fault()", "int code()", "int about(int)", "int register(int)",
        "int cell(int)", "int stack(int)", "int broken(int, int)", "int copy(int)", "int plan(int)",
        "int set(int, int, int)", "int smash(int, int, int, int, int)", "int lift(int)", "int watch(int)",
        "int undo()", "int aside(int, int)", "int free(int)", "int judge(int, long)", "int see(int, int)",
        "int unsee()", "int which()", "int share(int, boolean)", "int chance(int, int, boolean)",
        "long seed(long)", "int drawn(int)", "int keep(int)", "int again(int)"};

    public static void main(String[] args) throws IOException {
        constants();
        methods();
        members();
        nestedClasses();
        words();
        due.end();
    }

    private static void constants() {
        due.is("UNKNOWN", SideStep.UNKNOWN, -1);
        due.is("BAD", SideStep.BAD, -2);
        due.is("LATE", SideStep.LATE, -3);
        due.is("FULL", SideStep.FULL, -4);
        due.is("NONE", SideStep.NONE, -9);
    }

    private static void methods() {
        Set<String> names = new TreeSet<>();
        for (Method m : SideStep.class.getDeclaredMethods()) {
            if (Modifier.isPublic(m.getModifiers())) {
                String parameters = Arrays.toString(m.getParameterTypes());
                names.add(m.getReturnType() + " " + m.getName() + "("
                    + parameters.substring(1, parameters.length() - 1) + ")");
            }
        }
        Set<String> want = new TreeSet<>(Arrays.asList(FACE));
        due.isTrue("the public methods are " + names, names.equals(want));
    }

    private static void members() {
        due.isTrue("public and final", SideStep.class.getModifiers() == (Modifier.PUBLIC | Modifier.FINAL));
        Constructor<?>[] constructors = SideStep.class.getDeclaredConstructors();
        due.is("constructors", constructors.length, 1);
        due.isTrue("public constructor", Modifier.isPublic(constructors[0].getModifiers()));
        due.is("public fields", SideStep.class.getFields().length, 5);
        Set<String> publicNames = new TreeSet<>();
        for (Method m : SideStep.class.getMethods()) {
            publicNames.add(m.getName());
        }
        for (Method m : SideStep.class.getDeclaredMethods()) {
            boolean isPrivate = Modifier.isPrivate(m.getModifiers());
            due.isTrue(m + " is public or private", isPrivate || Modifier.isPublic(m.getModifiers()));
            due.isTrue(m + " bears a name of the face", !isPrivate || !publicNames.contains(m.getName()));
        }
        for (Field f : SideStep.class.getDeclaredFields()) {
            boolean isPrivate = Modifier.isPrivate(f.getModifiers());
            due.isTrue(f + " is public or private", isPrivate || Modifier.isPublic(f.getModifiers()));
            due.isTrue(f + " is not final", !Modifier.isStatic(f.getModifiers()) || Modifier.isFinal(f.getModifiers()));
        }
    }

    private static void nestedClasses() {
        Class<?>[] nested = SideStep.class.getDeclaredClasses();
        due.isTrue("at most twelve classes", nested.length < 12);
        for (Class<?> c : nested) {
            due.isTrue(c + " is static", Modifier.isStatic(c.getModifiers()));
            due.isTrue(c + " is not public", !Modifier.isPublic(c.getModifiers()));
            for (Method m : c.getDeclaredMethods()) {
                due.isTrue(m + " has at most seven parameters", m.getParameterCount() <= 7);
                boolean isPrivate = Modifier.isPrivate(m.getModifiers());
                due.isTrue(m + " bears a name of the face", !isPrivate
                    || Arrays.stream(FACE).noneMatch(f -> f.contains(" " + m.getName() + "(")));
            }
        }
    }

    private static void words() throws IOException {
        String source = Files.readString(Path.of("src/main/java/SideStep.java"), StandardCharsets.ISO_8859_1);
        String code = source.replaceAll("(?s)/\\*.*?\\*/", " ").replaceAll("//.*", " ");
        Matcher m = Pattern.compile("\\b(throw|throws|try|catch|synchronized|assert|package|instanceof|null|HashMap"
            + "|System\\.(?!arraycopy\\b)\\w+|Math\\.\\w+Exact|double|float|Random|Thread|Object)\\b|->|::|@").matcher(code);
        while (m.find()) {
            due.isTrue("the word " + m.group() + " is not used", false);
        }
        m = Pattern.compile("import ([\\w.*]+);").matcher(code);
        while (m.find()) {
            due.isTrue("the import " + m.group(1), m.group(1).equals("java.util.Arrays"));
        }
    }
}
