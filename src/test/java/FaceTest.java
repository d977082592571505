import java.io.IOException;
import java.lang.reflect.Constructor;
import java.lang.reflect.Member;
import java.lang.reflect.Method;
import java.lang.reflect.Modifier;
import java.nio.file.Files;
import java.nio.file.Path;
import java.util.ArrayList;
import java.util.Arrays;
import java.util.HashSet;
import java.util.List;
import java.util.Set;
import java.util.TreeSet;

/** The face of the class is that of ../shared/DOC.md, and the source keeps to what ../shared/LANGUAGE.md leaves. */
public final class FaceTest {
    private static final Path DOCUMENT = Path.of("../shared/DOC.md");
    private static final Path SOURCE = Path.of("src/main/java/Bloomclock.java");
    private static final String[] LEFT_OUT = {"finally", "synchronized", "assert ", "::", "Exact(", "static {",
        "protected ", "package ", "MAX_VALUE", "MIN_VALUE", "System.out", "hashCode(", "Throwable",
        "ArrayIndexOutOfBoundsException", "NullPointerException", "ClassCastException",
        "NegativeArraySizeException", "ArrayStoreException", "catch (Exception", "catch (RuntimeException"};
    private static final String[] IMPORTED = {"import java.util.ArrayList;", "import java.util.Arrays;",
        "import java.util.Iterator;", "import java.util.List;", "import java.util.NoSuchElementException;"};

    private static int failures;

    private static void fail(String what) {
        failures++;
        System.out.println(what);
    }

    /** A method as the document writes it, without the names of its arguments. */
    static String written(Method method) {
        List<String> types = new ArrayList<>();
        for (Class<?> type : method.getParameterTypes()) {
            types.add(type.getSimpleName());
        }
        List<String> thrown = new ArrayList<>();
        for (Class<?> type : method.getExceptionTypes()) {
            thrown.add(type.getSimpleName());
        }
        return "public " + method.getReturnType().getSimpleName() + " " + method.getName() + "("
                + String.join(", ", types) + ")" + (thrown.isEmpty() ? "" : " throws " + String.join(", ", thrown));
    }

    /** A line of the document's face without the names of its arguments. */
    static String withoutNames(String line) {
        return line.trim().replace(";", "").replaceAll("(int|boolean) \\w+([,)])", "$1$2");
    }

    private static Set<String> faceOfDocument() throws IOException {
        Set<String> face = new TreeSet<>();
        for (String line : Files.readAllLines(DOCUMENT)) {
            if (line.startsWith("    public ") && !line.contains("Bloomclock(")) {
                face.add(withoutNames(line));
            }
        }
        return face;
    }

    private static void comparesFace() throws IOException {
        Set<String> due = faceOfDocument();
        Set<String> got = new TreeSet<>();
        Set<String> names = new HashSet<>();
        for (Method method : Bloomclock.class.getDeclaredMethods()) {
            if (Modifier.isPublic(method.getModifiers())) {
                got.add(written(method));
                names.add(method.getName());
            }
        }
        if (due.size() != 34 || !got.equals(due)) {
            fail("the face is " + got + ", due is " + due);
        }
        for (Method method : Bloomclock.class.getDeclaredMethods()) {
            if (!Modifier.isPublic(method.getModifiers()) && names.contains(method.getName())) {
                fail("a private method bears a public name: " + method.getName());
            }
        }
        Constructor<?>[] constructors = Bloomclock.class.getDeclaredConstructors();
        if (constructors.length != 1 || constructors[0].getParameterCount() != 0
                || !Modifier.isPublic(constructors[0].getModifiers())
                || !Modifier.isFinal(Bloomclock.class.getModifiers())) {
            fail("the class is final and has one public constructor");
        }
    }

    private static void membersArePrivate() {
        List<Member> members = new ArrayList<>(Arrays.asList(Bloomclock.class.getDeclaredFields()));
        members.addAll(Arrays.asList(Bloomclock.class.getDeclaredMethods()));
        for (Member member : members) {
            int modifiers = member.getModifiers();
            boolean isPublicMethod = member instanceof Method && Modifier.isPublic(modifiers);
            if (!isPublicMethod && !Modifier.isPrivate(modifiers)) {
                fail("neither of the face nor private: " + member.getName());
            }
            if (member.getDeclaringClass() == Bloomclock.class && Modifier.isStatic(modifiers)
                    && !(member instanceof Method) && !Modifier.isFinal(modifiers)) {
                fail("a static field that is not final: " + member.getName());
            }
        }
    }

    private static void readsSource() throws IOException {
        int number = 0;
        for (String line : Files.readAllLines(SOURCE)) {
            number++;
            String code = line.trim();
            if (code.startsWith("//") || code.startsWith("/**") || code.startsWith("*")) {
                continue;
            }
            for (String word : LEFT_OUT) {
                if (code.contains(word)) {
                    fail("line " + number + " has what the language leaves out: " + word);
                }
            }
            if (code.startsWith("import ") && !Arrays.asList(IMPORTED).contains(code)) {
                fail("line " + number + " imports what the language leaves out");
            }
        }
    }

    public static void main(String[] args) throws IOException {
        comparesFace();
        membersArePrivate();
        readsSource();
        System.out.println(failures == 0 ? "the face is as due" : failures + " faults of the face");
        if (failures > 0) {
            System.exit(1);
        }
    }
}
