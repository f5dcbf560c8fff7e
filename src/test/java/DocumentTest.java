import java.io.IOException;
import java.lang.reflect.Field;
import java.lang.reflect.Member;
import java.lang.reflect.Method;
import java.lang.reflect.Modifier;
import java.nio.file.Files;
import java.nio.file.Path;
import java.util.List;
import java.util.Set;
import java.util.TreeSet;
import java.util.regex.Matcher;
import java.util.regex.Pattern;
import java.util.stream.Collectors;
import java.util.stream.Stream;

/** The document itself: the face that it writes is the program's, and each of its promises has tests. */
public final class DocumentTest {
    private static final Checks checks = new Checks();

    public static void main(String[] args) throws IOException, ReflectiveOperationException {
        String document = Files.readString(Path.of("../shared/DOC.md"));
        checks.promise(0, "the document");
        Matcher face = Pattern.compile("(?s)```java\n(.*?)```").matcher(document);
        checks.fine("a face is written", face.find());
        constants(face.group(1));
        methods(face.group(1));
        made(face.group(1));
        promises(document, testsTogether());
        checks.end();
    }

    private static boolean isSeen(Member member) {
        return !Modifier.isPrivate(member.getModifiers()) && !member.isSynthetic();
    }

    private static void constants(String face) throws ReflectiveOperationException {
        Matcher line = Pattern.compile("public static final int (.*);").matcher(face);
        checks.fine("constants are written", line.find());
        Set<String> want = new TreeSet<>(List.of(line.group(1).split(", ")));
        Set<String> got = new TreeSet<>();
        for (Field field : QuiltHouse.class.getDeclaredFields()) {
            if (isSeen(field)) {
                checks.fine(field + " is public and of int", field.toString().startsWith("public static final int "));
                got.add(field.getName() + " = " + field.getInt(null));
            }
        }
        checks.fine("constants " + got + ", not " + want, got.equals(want));
    }

    private static void methods(String face) {
        Set<String> want = new TreeSet<>();
        Matcher lines = Pattern.compile("(?m)^ +public (int|long) (\\w+)\\((.*)\\);$").matcher(face);
        while (lines.find()) {
            Stream<String> types = Stream.of(lines.group(3).split(", ")).map(p -> p.split(" ")[0]);
            want.add(told("public " + lines.group(1), lines.group(2), types));
        }
        checks.due("calls written", want.size(), 28);
        Set<String> got = new TreeSet<>();
        for (Method method : QuiltHouse.class.getDeclaredMethods()) {
            if (isSeen(method)) {
                String kind = Modifier.toString(method.getModifiers()) + " " + method.getReturnType();
                got.add(told(kind, method.getName(), Stream.of(method.getParameterTypes()).map(Class::getName)));
            }
        }
        checks.fine("calls " + got + ", not " + want, got.equals(want));
    }

    private static String told(String kind, String name, Stream<String> types) {
        return kind + " " + name + "(" + types.collect(Collectors.joining(", ")) + ")";
    }

    private static void made(String face) {
        checks.fine("the class is written", face.startsWith("public final class QuiltHouse {\n"));
        checks.due("public and final", QuiltHouse.class.getModifiers(), Modifier.PUBLIC | Modifier.FINAL);
        checks.fine("one constructor is written", face.contains("    public QuiltHouse();\n"));
        checks.due("one constructor", QuiltHouse.class.getDeclaredConstructors().length, 1);
        checks.due("a public one", QuiltHouse.class.getConstructors().length, 1);
        checks.due("of nothing", QuiltHouse.class.getConstructors()[0].getParameterCount(), 0);
        checks.fine("no package", QuiltHouse.class.getPackageName().isEmpty());
        checks.fine("extends nothing", QuiltHouse.class.getSuperclass() == Object.class);
        checks.due("implements nothing", QuiltHouse.class.getInterfaces().length, 0);
    }

    private static String testsTogether() throws IOException {
        StringBuilder tests = new StringBuilder();
        try (Stream<Path> files = Files.list(Path.of("src/test/java"))) {
            for (Path file : files.sorted().toList()) {
                tests.append(Files.readString(file));
            }
        }
        return tests.toString();
    }

    /** Each promise is named by a test by hand, and each call is compared with the plain model. */
    private static void promises(String document, String tests) {
        Matcher heads = Pattern.compile("(?m)^## Promise (\\d+): (.+)$").matcher(document);
        int found = 0;
        while (heads.find()) {
            found++;
            checks.due("promises in their order", Integer.parseInt(heads.group(1)), found);
            String named = "checks.promise(" + heads.group(1) + ", \"" + heads.group(2).toLowerCase() + "\")";
            checks.fine("a test says " + named, tests.contains(named));
            String model = "plain." + heads.group(2) + "(";
            checks.fine("a test calls " + model, found == 1 || tests.contains(model));
        }
        checks.due("promises", found, 29);
    }
}
