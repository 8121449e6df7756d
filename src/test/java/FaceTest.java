import java.io.IOException;
import java.lang.reflect.Constructor;
import java.lang.reflect.Field;
import java.lang.reflect.Method;
import java.lang.reflect.Modifier;
import java.nio.file.Files;
import java.nio.file.Path;
import java.util.Arrays;
import java.util.HashSet;
import java.util.List;
import java.util.Set;
import java.util.TreeSet;
import java.util.regex.Pattern;
import java.util.stream.Collectors;

/** The face of the class, and those rules of LANGUAGE.md that reflection or a text search can see. */
public final class FaceTest {
    private static final Path SOURCE = Path.of("src/main/java/SetupJobShop.java");

    private static final String[] METHODS = {
        "int addJob(int,int,int) IllegalArgumentException,IllegalStateException",
        "int addOperation(int,int,int,int) IndexOutOfBoundsException,IllegalArgumentException,IllegalStateException",
        "int setJob(int,int,int) IndexOutOfBoundsException,IllegalArgumentException",
        "int setDuration(int,int) IndexOutOfBoundsException,IllegalArgumentException",
        "int setSetup(int,int,int) IndexOutOfBoundsException,IllegalArgumentException",
        "int addBreakdown(int,int,int) IndexOutOfBoundsException,IllegalArgumentException,IllegalStateException",
        "int clearBreakdowns(int) IndexOutOfBoundsException",
        "int count(int) IllegalArgumentException",
        "int property(int,int) IndexOutOfBoundsException,IllegalArgumentException",
        "int order(int,int) IndexOutOfBoundsException,NoSuchElementException",
        "int time(int,int) IndexOutOfBoundsException,IllegalArgumentException",
        "int makespan() ",
        "int slack(int) IndexOutOfBoundsException",
        "int completion(int) IndexOutOfBoundsException",
        "int objective(int) IllegalArgumentException",
        "double utilization(int) IndexOutOfBoundsException",
        "int pathLength() ",
        "int path(int) NoSuchElementException",
        "int blocks() ",
        "int blockLength(int) NoSuchElementException",
        "int swap(int,int) IndexOutOfBoundsException,NoSuchElementException,IllegalStateException",
        "int move(int,int) IndexOutOfBoundsException,IllegalArgumentException,IllegalStateException",
        "int dispatch(int) IllegalArgumentException",
        "int repair(int,int) IllegalArgumentException",
        "int best(int) IndexOutOfBoundsException",
        "int reoptimize(int) IndexOutOfBoundsException",
        "int shiftBottlenecks() ",
        "int bottleneck(int) NoSuchElementException",
        "int tabu(int,int) IllegalArgumentException",
        "int tabuSteps() ",
        "int bound(int) IndexOutOfBoundsException",
        "int lowerBound() ",
        "void append(char) IllegalStateException",
        "int read() IllegalArgumentException,IllegalStateException",
        "int failure(int) IllegalArgumentException",
        "void save() ",
        "void restore() IllegalStateException"};

    public static void main(String[] args) throws IOException {
        publicMembers();
        noOtherVisibleMembers();
        noPrivateMethodWithAPublicName();
        sizesOfClasses();
        wordsOfTheSource();
        Check.end();
    }

    private static String names(Class<?>[] types) {
        return Arrays.stream(types).map(Class::getSimpleName).collect(Collectors.joining(","));
    }

    private static void publicMembers() {
        Set<String> found = new TreeSet<>();
        for (Method method : SetupJobShop.class.getDeclaredMethods()) {
            if (Modifier.isPublic(method.getModifiers())) {
                found.add(method.getReturnType().getSimpleName() + " " + method.getName() + "("
                        + names(method.getParameterTypes()) + ") " + names(method.getExceptionTypes()));
                Check.due(method + " is static", Modifier.isStatic(method.getModifiers()), false);
            }
        }
        Check.due("public methods", found, new TreeSet<>(List.of(METHODS)));
        int modifiers = SetupJobShop.class.getModifiers();
        Check.due("public and final", Modifier.isPublic(modifiers) && Modifier.isFinal(modifiers), true);
        Check.due("no package", SetupJobShop.class.getPackageName(), "");
        Constructor<?>[] constructors = SetupJobShop.class.getDeclaredConstructors();
        Check.due("constructors", constructors.length, 1);
        Check.due("parameters", constructors[0].getParameterCount(), 0);
        Check.due("public constructor", Modifier.isPublic(constructors[0].getModifiers()), true);
    }

    private static void noOtherVisibleMembers() {
        for (Method method : SetupJobShop.class.getDeclaredMethods()) {
            int modifiers = method.getModifiers();
            Check.due(method + " is public or private",
                    Modifier.isPublic(modifiers) || Modifier.isPrivate(modifiers), true);
        }
        for (Field field : SetupJobShop.class.getDeclaredFields()) {
            Check.due(field + " is private", Modifier.isPrivate(field.getModifiers()), true);
        }
        for (Class<?> inner : SetupJobShop.class.getDeclaredClasses()) {
            int modifiers = inner.getModifiers();
            Check.due(inner + " is static", Modifier.isStatic(modifiers), true);
            Check.due(inner + " is hidden", Modifier.isPublic(modifiers) || Modifier.isProtected(modifiers), false);
        }
    }

    private static void noPrivateMethodWithAPublicName() {
        Set<String> open = new HashSet<>();
        for (Method method : SetupJobShop.class.getMethods()) {
            open.add(method.getName());
        }
        for (Method method : SetupJobShop.class.getDeclaredMethods()) {
            if (Modifier.isPrivate(method.getModifiers())) {
                Check.due(method + " has a public name", open.contains(method.getName()), false);
            }
        }
        for (Class<?> inner : SetupJobShop.class.getDeclaredClasses()) {
            for (Method method : inner.getDeclaredMethods()) {
                Check.due(method + " has a public name", open.contains(method.getName()), false);
            }
        }
    }

    private static void sizesOfClasses() {
        Class<?>[] inner = SetupJobShop.class.getDeclaredClasses();
        Check.due("at most twelve classes", inner.length <= 11, true);
        for (Class<?> each : inner) {
            sizeOf(each);
        }
        sizeOf(SetupJobShop.class);
    }

    private static void sizeOf(Class<?> each) {
        int fields = 0;
        for (Field field : each.getDeclaredFields()) {
            boolean isStatic = Modifier.isStatic(field.getModifiers());
            fields += isStatic ? 0 : 1;
            Check.due(field + " is no static state", isStatic && !Modifier.isFinal(field.getModifiers()), false);
        }
        Check.due("at most twenty fields in " + each, fields <= 20, true);
        for (Method method : each.getDeclaredMethods()) {
            Check.due(method + " has at most seven parameters", method.getParameterCount() <= 7, true);
        }
    }

    private static void wordsOfTheSource() throws IOException {
        String source = Files.readString(SOURCE);
        for (int i = 0; i < source.length(); i++) {
            if (source.charAt(i) > 126) {
                Check.due("sign at " + i, (int) source.charAt(i), "from 0 to 126");
            }
        }
        Check.due("imports", source.lines().filter(line -> line.startsWith("import ")).toList(),
                List.of("import java.util.NoSuchElementException;"));
        String[] forbidden = {"->", "::", "\\bcatch\\b", "\\bfinally\\b", "\\bsynchronized\\b", "\\bassert\\b",
            "\\bpackage\\b", "static \\{", "\\bSystem\\.(?!arraycopy)", "\\bjava\\.(?!util\\.NoSuchElementException)",
            "Exact\\b", "\\bMath\\.(?!max|min|abs)", "\\bNaN\\b", "throw (?!new )"};
        for (String each : forbidden) {
            Check.due("the source has " + each, Pattern.compile(each).matcher(source).find(), false);
        }
    }
}
