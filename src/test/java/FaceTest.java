import java.io.IOException;
import java.lang.reflect.Field;
import java.lang.reflect.Method;
import java.lang.reflect.Modifier;
import java.nio.file.Files;
import java.nio.file.Path;
import java.util.Arrays;
import java.util.List;
import java.util.Set;
import java.util.TreeSet;
import java.util.stream.Collectors;

/** The public face of the document, and those rules of LANGUAGE.md that are easily seen. */
public final class FaceTest {
    private static final Check CHECK = new Check();
    private static final Set<String> METHODS = Set.of("addCar/3", "setAwake/2", "hold/2", "fail/1", "repair/1",
        "call/2", "pass/1", "undo/0", "count/1", "car/2", "caller/2", "group/2", "cost/3", "would/2",
        "thereIn/1", "waits/1", "worstCar/1");
    private static final Set<String> CONSTANTS =
        Set.of("INVALID_ARGUMENT", "ILLEGAL_STATE", "CAPACITY_EXCEEDED", "NONE");

    public static void main(String[] args) throws IOException {
        face();
        classesInside();
        source(Files.readString(Path.of("src/main/java/GoalLifts.java")));
        CHECK.end("FaceTest");
    }

    private static void holds(String what, boolean is) {
        CHECK.due(what, is ? 1 : 0, 1);
    }

    private static void face() {
        holds("the class is public and final", GoalLifts.class.getModifiers() == (Modifier.PUBLIC | Modifier.FINAL));
        holds("one constructor", GoalLifts.class.getDeclaredConstructors().length == 1);
        Set<String> open = new TreeSet<>();
        Set<String> names = METHODS.stream().map(m -> m.split("/")[0]).collect(Collectors.toSet());
        for (Method m : GoalLifts.class.getDeclaredMethods()) {
            if (Modifier.isPrivate(m.getModifiers())) {
                holds(m.getName() + " is no public name", !names.contains(m.getName()));
                continue;
            }
            open.add(m.getName() + "/" + m.getParameterCount());
            boolean ints = Arrays.stream(m.getParameterTypes()).allMatch(type -> type == int.class);
            holds(m.getName() + " is public and of int", m.getModifiers() == Modifier.PUBLIC && ints
                && m.getReturnType() == int.class);
        }
        holds("the methods are " + open, open.equals(METHODS));
        Set<String> constants = new TreeSet<>();
        for (Field f : GoalLifts.class.getDeclaredFields()) {
            if (!Modifier.isPrivate(f.getModifiers())) {
                constants.add(f.getName());
            }
        }
        holds("the constants are " + constants, constants.equals(CONSTANTS));
    }

    private static void classesInside() {
        List<Class<?>> inside = List.of(GoalLifts.class.getDeclaredClasses());
        holds("at most twelve classes", inside.size() < 12);
        for (Class<?> c : inside) {
            holds(c.getName() + " is static", Modifier.isStatic(c.getModifiers()));
            holds(c.getName() + " is not public",
                !Modifier.isPublic(c.getModifiers()) && !Modifier.isProtected(c.getModifiers()));
            holds(c.getName() + " has at most twenty fields", c.getDeclaredFields().length <= 20);
        }
        for (Field f : GoalLifts.class.getDeclaredFields()) {
            holds(f.getName() + " is final", Modifier.isFinal(f.getModifiers()));
        }
    }

    private static void source(String text) {
        String code = text.replaceAll("(?s)/\\*.*?\\*/", "").replaceAll("//[^\n]*", "");
        Set<String> words = new TreeSet<>(List.of(code.split("[^A-Za-z_]+")));
        for (String no : List.of("import", "package", "throw", "throws", "try", "catch", "synchronized", "assert",
            "instanceof", "equals", "hashCode", "Thread", "Random", "double", "float")) {
            holds("without " + no, !words.contains(no));
        }
        holds("without lambdas and method references", !code.contains("->") && !code.contains("::"));
        int open = 0;
        for (String line : text.split("\n")) {
            boolean starts = line.matches("    (    )?[a-z].*\\) \\{");
            boolean ends = line.matches("    (    )?\\}");
            open = starts ? 1 : ends ? 0 : open == 0 ? 0 : open + 1;
            holds("a method has at most sixty lines: " + line, open <= 60);
        }
    }
}
