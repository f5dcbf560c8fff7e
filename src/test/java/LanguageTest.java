import java.io.IOException;
import java.lang.reflect.Constructor;
import java.lang.reflect.Field;
import java.lang.reflect.Method;
import java.lang.reflect.Modifier;
import java.nio.file.Files;
import java.nio.file.Path;
import java.util.ArrayList;
import java.util.List;
import java.util.Set;
import java.util.TreeSet;
import java.util.regex.Matcher;
import java.util.regex.Pattern;

/** The face of the document, and those rules of LANGUAGE.md that the text of the program shows. */
public final class LanguageTest {
    private static final String[] FACE = {
        "int quilt(int,int)", "int say(int)", "int wipe()", "int fault()", "int lay()", "int family(int)",
        "int foes(int,int,boolean)", "int set(int,int)", "int sew(int,int)", "int unpick(int,int)",
        "int birth(int,int)", "int death(int)", "int pieces(int)", "int cold()", "int spent()", "int parts()",
        "int whole(int)", "int patch(int,int)", "int wash(int,int)", "int placings(int,int,int,int)",
        "int placed(int,int,int,int,int)", "long grown()", "int could(int)", "int turn()", "int years(int,int,int)",
        "int image(int)", "int restore(int)", "int told(int)"};
    private static final String[] FORBIDDEN = {
        "\\bthrow\\b", "\\bthrows\\b", "\\btry\\b", "\\bcatch\\b", "\\bfinally\\b", "\\bsynchronized\\b",
        "\\bassert\\b", "\\bprotected\\b", "\\bpackage\\b", "\\bvolatile\\b", "\\bnative\\b", "\\bvar\\b",
        "->", "::", "Exact\\b", "\\bSystem\\.(?!arraycopy)", "\\bThread\\b", "\\bRandom\\b", "@"};
    private static final Set<String> LIBRARY = Set.of(
        "Arrays.fill", "Integer.bitCount", "Math.abs", "Math.max", "Math.min");
    private static final int LONGEST_METHOD = 60;
    private static final int MOST_FIELDS = 20;
    private static final int MOST_CLASSES = 12;
    private static final Checks checks = new Checks();

    public static void main(String[] args) throws IOException {
        checks.promise(0, "the language");
        face();
        classesInside();
        String text = withoutComments(Files.readString(Path.of("src/main/java/QuiltHouse.java")));
        words(text);
        library(text);
        loopsHaveEnds(text);
        methodsAreShort(text);
        checks.end();
    }

    private static void face() {
        Set<String> want = new TreeSet<>(Set.of(FACE));
        Set<String> got = new TreeSet<>();
        for (Method method : QuiltHouse.class.getDeclaredMethods()) {
            if (!Modifier.isPrivate(method.getModifiers())) {
                got.add(told(method));
                checks.fine(method + " is public and not static", method.getModifiers() == Modifier.PUBLIC);
            }
        }
        checks.fine("the face is " + got, got.equals(want));
        Constructor<?>[] made = QuiltHouse.class.getDeclaredConstructors();
        checks.fine("one constructor without arguments", made.length == 1 && made[0].getParameterCount() == 0);
        Set<String> constants = new TreeSet<>();
        for (Field field : QuiltHouse.class.getDeclaredFields()) {
            if (!Modifier.isPrivate(field.getModifiers())) {
                constants.add(field.getName());
            }
        }
        checks.fine("the constants are " + constants,
            constants.equals(Set.of("UNKNOWN", "OUTSIDE", "STATE", "FULL", "NO", "NONE")));
        checks.fine("public and final", QuiltHouse.class.getModifiers() == (Modifier.PUBLIC | Modifier.FINAL));
    }

    private static String told(Method method) {
        StringBuilder told = new StringBuilder();
        told.append(method.getReturnType().getName()).append(' ').append(method.getName()).append('(');
        for (Class<?> type : method.getParameterTypes()) {
            told.append(told.charAt(told.length() - 1) == '(' ? "" : ",").append(type.getName());
        }
        return told.append(')').toString();
    }

    private static void classesInside() {
        Set<String> names = new TreeSet<>();
        for (Method method : QuiltHouse.class.getDeclaredMethods()) {
            if (Modifier.isPublic(method.getModifiers())) {
                names.add(method.getName());
            }
        }
        List<Class<?>> classes = new ArrayList<>(List.of(QuiltHouse.class.getDeclaredClasses()));
        checks.fine("few classes", classes.size() < MOST_CLASSES);
        for (Class<?> inside : classes) {
            checks.fine(inside + " is static", Modifier.isStatic(inside.getModifiers()));
            checks.fine(inside + " is not public", !Modifier.isPublic(inside.getModifiers()));
            for (Method method : inside.getDeclaredMethods()) {
                checks.fine(method + " bears a name of its own", !names.contains(method.getName()));
                checks.fine(method + " takes at most seven", method.getParameterCount() <= 7);
            }
        }
        classes.add(QuiltHouse.class);
        for (Class<?> any : classes) {
            int fields = 0;
            for (Field field : any.getDeclaredFields()) {
                boolean fixed = Modifier.isStatic(field.getModifiers());
                checks.fine(field + " is final, if static", !fixed || Modifier.isFinal(field.getModifiers()));
                fields += fixed ? 0 : 1;
            }
            checks.fine(any + " has few fields", fields <= MOST_FIELDS);
        }
    }

    private static String withoutComments(String text) {
        return text.replaceAll("(?s)/\\*.*?\\*/", "").replaceAll("//[^\n]*", "");
    }

    private static void words(String text) {
        for (String word : FORBIDDEN) {
            checks.fine("no " + word, !Pattern.compile(word).matcher(text).find());
        }
        for (int i = 0; i < text.length(); i++) {
            checks.fine("sign " + i, text.charAt(i) < 127);
        }
    }

    private static void library(String text) {
        Matcher imports = Pattern.compile("\\bimport\\b ([\\w. ]+);").matcher(text);
        while (imports.find()) {
            checks.fine("import " + imports.group(1), imports.group(1).equals("java.util.Arrays"));
        }
        Matcher calls = Pattern.compile("\\b([A-Z]\\w*\\.[a-z]\\w*)\\(").matcher(text);
        while (calls.find()) {
            checks.fine(calls.group(1) + " of the library", LIBRARY.contains(calls.group(1)));
        }
    }

    /** Rule 9: each loop counts up by one from its start to a bound, in its own line. */
    private static void loopsHaveEnds(String text) {
        checks.fine("no while, no do", !Pattern.compile("\\b(while|do)\\b").matcher(text).find());
        Pattern counter = Pattern.compile("for \\(int (\\w+) = [^;]+; \\1 < [^;]+; \\1\\+\\+\\) \\{");
        Matcher loops = Pattern.compile("\\bfor \\(.*").matcher(text);
        int found = 0;
        while (loops.find()) {
            checks.fine(loops.group() + " counts up to a bound", counter.matcher(loops.group()).matches());
            found++;
        }
        checks.fine("loops were found", found > 0);
    }

    private static void methodsAreShort(String text) {
        Pattern head = Pattern.compile("(?m)^( +)(?!return|else|new)[\\w\\[\\] ]+ (\\w+)\\([^;{]*\\) \\{\n");
        Matcher heads = head.matcher(text);
        int found = 0;
        while (heads.find()) {
            int end = text.indexOf("\n" + heads.group(1) + "}\n", heads.end() - 1);
            checks.fine(heads.group(2) + " has an end", end >= 0);
            if (end >= 0) {
                long lines = text.substring(heads.start(), end).lines().count() + 1;
                checks.fine(heads.group(2) + " has " + lines + " lines", lines <= LONGEST_METHOD);
            }
            found++;
        }
        checks.fine("methods were found", found > FACE.length);
    }
}
