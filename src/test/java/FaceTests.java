import java.io.IOException;
import java.lang.reflect.Constructor;
import java.lang.reflect.Field;
import java.lang.reflect.Method;
import java.lang.reflect.Modifier;
import java.nio.file.Files;
import java.nio.file.Path;
import java.util.ArrayList;
import java.util.List;
import java.util.Set;
import java.util.TreeSet;
import java.util.regex.Matcher;
import java.util.regex.Pattern;

/** The public face of the document, and those rules of LANGUAGE.md that can be seen in the text of the file. */
public final class FaceTests {
    private static final Set<String> METHODS = Set.of(
        "type(long,int)", "parse()", "count(int)", "run(int)", "ran(int,int)", "out(int,int,int)",
        "difference(int)", "schedules(int,int)", "schedule(int,int,int)", "equal(int,int)",
        "failing(int,int,int)", "shuffle(int,int)", "shrink(int)", "left(int,int)", "cover(int,int)",
        "mutant(int,int)", "alone(int)", "event(int,int,int)", "step(int,int)");
    private static final Set<String> CONSTANTS = Set.of("BAD", "NO", "NONE");
    private static final List<String> FORBIDDEN = List.of(
        "\\bthrow\\b", "\\bthrows\\b", "\\btry\\b", "\\bcatch\\b", "\\bsynchronized\\b", "\\bassert\\b",
        "->", "::", "^import (?!java\\.util\\.(Arrays|ArrayList|List|Iterator);)", "^package\\b",
        "\\bstatic\\s*\\{", "while \\(true\\)", "Exact\\(", "System\\.(?!arraycopy\\()");

    private static int wrong = 0;

    private static void due(String what, boolean holds) {
        if (!holds) {
            wrong++;
            System.out.println("face: " + what);
        }
    }

    public static void main(String[] args) throws IOException {
        Class<?> face = JobTests.class;
        due("the class is public and final",
            Modifier.isPublic(face.getModifiers()) && Modifier.isFinal(face.getModifiers()));
        due("it has one constructor, public, without arguments", hasOneConstructor(face));
        due("the constants are those of the document", hiddenButFor(face, CONSTANTS));
        due("BAD, NO, NONE are -1, -2, -3", JobTests.BAD == -1 && JobTests.NO == -2 && JobTests.NONE == -3);
        checkMethods(face);
        for (Class<?> inside : face.getDeclaredClasses()) {
            due(inside + " is static", Modifier.isStatic(inside.getModifiers()));
            due(inside + " is not public or protected",
                (inside.getModifiers() & (Modifier.PUBLIC | Modifier.PROTECTED)) == 0);
        }
        due("there are at most twelve classes", face.getDeclaredClasses().length < 12);
        checkText(Files.readString(Path.of("src/main/java/JobTests.java")));
        System.out.println(wrong == 0 ? "the face is as due" : wrong + " things are not as due");
        if (wrong != 0) {
            System.exit(1);
        }
    }

    private static boolean hasOneConstructor(Class<?> face) {
        Constructor<?>[] all = face.getDeclaredConstructors();
        return all.length == 1 && all[0].getParameterCount() == 0 && Modifier.isPublic(all[0].getModifiers());
    }

    private static boolean hiddenButFor(Class<?> face, Set<String> names) {
        Set<String> seen = new TreeSet<>();
        for (Field field : face.getDeclaredFields()) {
            if (!Modifier.isPrivate(field.getModifiers())) {
                int all = Modifier.PUBLIC | Modifier.STATIC | Modifier.FINAL;
                due(field + " is a public constant of int",
                    (field.getModifiers() & all) == all && field.getType() == int.class);
                seen.add(field.getName());
            }
        }
        return seen.equals(new TreeSet<>(names));
    }

    private static void checkMethods(Class<?> face) {
        Set<String> seen = new TreeSet<>();
        Set<String> names = new TreeSet<>();
        for (String method : METHODS) {
            names.add(method.substring(0, method.indexOf('(')));
        }
        List<Class<?>> classes = new ArrayList<>(List.of(face.getDeclaredClasses()));
        for (Method method : face.getDeclaredMethods()) {
            if (Modifier.isPrivate(method.getModifiers())) {
                due(method + " bears the name of a public method", !names.contains(method.getName()));
            } else {
                due(method + " is public and answers an int",
                    Modifier.isPublic(method.getModifiers()) && method.getReturnType() == int.class);
                List<String> types = new ArrayList<>();
                for (Class<?> type : method.getParameterTypes()) {
                    types.add(type.getName());
                }
                seen.add(method.getName() + "(" + String.join(",", types) + ")");
            }
        }
        for (Class<?> inside : classes) {
            for (Method method : inside.getDeclaredMethods()) {
                due(method + " bears the name of a public method", !names.contains(method.getName()));
            }
        }
        due("the methods are those of the document, not " + seen, seen.equals(new TreeSet<>(METHODS)));
    }

    private static void checkText(String file) {
        String code = file.replaceAll("(?s)/\\*.*?\\*/", "").replaceAll("//[^\n]*", "");
        for (String rule : FORBIDDEN) {
            Matcher found = Pattern.compile(rule, Pattern.MULTILINE).matcher(code);
            due("the file has " + rule, !found.find());
        }
    }
}
