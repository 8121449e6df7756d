import java.io.IOException;
import java.lang.reflect.Constructor;
import java.lang.reflect.Field;
import java.lang.reflect.Method;
import java.lang.reflect.Modifier;
import java.nio.file.Files;
import java.nio.file.Path;
import java.util.Arrays;
import java.util.HashSet;
import java.util.List;
import java.util.Set;
import java.util.TreeSet;
import java.util.regex.Pattern;
import java.util.stream.Collectors;

/** The face of the class, and those rules of LANGUAGE.md that reflection or a text search can see. */
public final class FaceTest {
    private static final Path SOURCE = Path.of("src/main/java/SetupJobShop.java");

    public static void main(String[] args) throws IOException {
        publicMembers();
        signaturesOfThePromises();
        noOtherVisibleMembers();
        noPrivateMethodWithAPublicName();
        sizesOfClasses();
        wordsOfTheSource();
        Check.end();
    }

    private static String names(Class<?>[] types) {
        return Arrays.stream(types).map(Class::getSimpleName).collect(Collectors.joining(", "));
    }

    /** A declaration without the names of its parameters. */
    private static String withoutNames(String declaration) {
        return declaration.replaceAll("(int|char) \\w+(?=[,)])", "$1");
    }

    private static void publicMembers() throws IOException {
        Set<String> found = new TreeSet<>();
        for (Method method : SetupJobShop.class.getDeclaredMethods()) {
            if (Modifier.isPublic(method.getModifiers())) {
                Class<?>[] exceptions = method.getExceptionTypes();
                found.add(method.getReturnType().getSimpleName() + " " + method.getName() + "("
                        + names(method.getParameterTypes()) + ")"
                        + (exceptions.length > 0 ? " throws " + names(exceptions) : ""));
                Check.due(method + " is static", Modifier.isStatic(method.getModifiers()), false);
            }
        }
        List<String> due = Document.methods();
        Check.due("methods of the document", due.size(), 37);
        Check.due("public methods", found, due.stream().map(FaceTest::withoutNames)
                .collect(Collectors.toCollection(TreeSet::new)));
        int modifiers = SetupJobShop.class.getModifiers();
        Check.due("public and final", Modifier.isPublic(modifiers) && Modifier.isFinal(modifiers), true);
        Check.due("no package", SetupJobShop.class.getPackageName(), "");
        Constructor<?>[] constructors = SetupJobShop.class.getDeclaredConstructors();
        Check.due("constructors", constructors.length, 1);
        Check.due("parameters", constructors[0].getParameterCount(), 0);
        Check.due("public constructor", Modifier.isPublic(constructors[0].getModifiers()), true);
    }

    /** Promise 1 is the constructor; the methods follow in the order of the face, so that tests can go by numbers. */
    private static void signaturesOfThePromises() throws IOException {
        List<String> methods = Document.methods();
        Check.due("promises", methods.size() + 1, Document.PROMISES);
        for (int promise = 2; promise <= Document.PROMISES; promise++) {
            Check.due("signature of promise " + promise, Document.between(Document.promise(promise), "`", "`"),
                    methods.get(promise - 2));
        }
    }

    private static void noOtherVisibleMembers() {
        for (Method method : SetupJobShop.class.getDeclaredMethods()) {
            int modifiers = method.getModifiers();
            Check.due(method + " is public or private",
                    Modifier.isPublic(modifiers) || Modifier.isPrivate(modifiers), true);
        }
        for (Field field : SetupJobShop.class.getDeclaredFields()) {
            Check.due(field + " is private", Modifier.isPrivate(field.getModifiers()), true);
        }
        for (Class<?> inner : SetupJobShop.class.getDeclaredClasses()) {
            int modifiers = inner.getModifiers();
            Check.due(inner + " is static", Modifier.isStatic(modifiers), true);
            Check.due(inner + " is hidden", Modifier.isPublic(modifiers) || Modifier.isProtected(modifiers), false);
        }
    }

    private static void noPrivateMethodWithAPublicName() {
        Set<String> open = new HashSet<>();
        for (Method method : SetupJobShop.class.getMethods()) {
            open.add(method.getName());
        }
        for (Method method : SetupJobShop.class.getDeclaredMethods()) {
            if (Modifier.isPrivate(method.getModifiers())) {
                Check.due(method + " has a public name", open.contains(method.getName()), false);
            }
        }
        for (Class<?> inner : SetupJobShop.class.getDeclaredClasses()) {
            for (Method method : inner.getDeclaredMethods()) {
                Check.due(method + " has a public name", open.contains(method.getName()), false);
            }
        }
    }

    private static void sizesOfClasses() {
        Class<?>[] inner = SetupJobShop.class.getDeclaredClasses();
        Check.due("at most twelve classes", inner.length <= 11, true);
        for (Class<?> each : inner) {
            sizeOf(each);
        }
        sizeOf(SetupJobShop.class);
    }

    private static void sizeOf(Class<?> each) {
        int fields = 0;
        for (Field field : each.getDeclaredFields()) {
            boolean isStatic = Modifier.isStatic(field.getModifiers());
            fields += isStatic ? 0 : 1;
            Check.due(field + " is no static state", isStatic && !Modifier.isFinal(field.getModifiers()), false);
        }
        Check.due("at most twenty fields in " + each, fields <= 20, true);
        for (Method method : each.getDeclaredMethods()) {
            Check.due(method + " has at most seven parameters", method.getParameterCount() <= 7, true);
        }
    }

    private static void wordsOfTheSource() throws IOException {
        String source = Files.readString(SOURCE);
        for (int i = 0; i < source.length(); i++) {
            if (source.charAt(i) > 126) {
                Check.due("sign at " + i, (int) source.charAt(i), "from 0 to 126");
            }
        }
        Check.due("imports", source.lines().filter(line -> line.startsWith("import ")).toList(),
                List.of("import java.util.NoSuchElementException;"));
        String[] forbidden = {"->", "::", "\\bcatch\\b", "\\bfinally\\b", "\\bsynchronized\\b", "\\bassert\\b",
            "\\bpackage\\b", "static \\{", "\\bSystem\\.(?!arraycopy)", "\\bjava\\.(?!util\\.NoSuchElementException)",
            "Exact\\b", "\\bMath\\.(?!max|min|abs)", "\\bNaN\\b", "throw (?!new )"};
        for (String each : forbidden) {
            Check.due("the source has " + each, Pattern.compile(each).matcher(source).find(), false);
        }
    }
}
