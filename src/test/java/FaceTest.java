import java.io.IOException;
import java.lang.reflect.Field;
import java.lang.reflect.Member;
import java.lang.reflect.Method;
import java.lang.reflect.Modifier;
import java.nio.file.Files;
import java.nio.file.Path;
import java.util.Arrays;
import java.util.Set;
import java.util.TreeSet;
import java.util.regex.Matcher;
import java.util.regex.Pattern;

// The face that the document gives, and those rules of LANGUAGE.md that a look at the class and its text can tell.
public final class FaceTest {
    private static final String[] FACE = {
        "about(int) IllegalArgumentException",
        "addPerson() IllegalStateException",
        "addStep(int, int, int, int) IndexOutOfBoundsException IllegalArgumentException IllegalStateException",
        "append(int) IllegalArgumentException IllegalStateException",
        "bestNew(int, int) IndexOutOfBoundsException",
        "clearText()",
        "cost(int, int) IndexOutOfBoundsException",
        "errorPosition(boolean)",
        "exchange(int, int) IllegalArgumentException",
        "find(int, int, int) IndexOutOfBoundsException IllegalArgumentException",
        "follow(int, int, long) IndexOutOfBoundsException IllegalArgumentException",
        "length(int, int) IndexOutOfBoundsException",
        "load() IllegalStateException",
        "needed(int, int) IndexOutOfBoundsException",
        "pathAt(int, int, int) IndexOutOfBoundsException IllegalArgumentException",
        "paths(int, int, int) IndexOutOfBoundsException IllegalArgumentException",
        "patternAt(int) IllegalArgumentException",
        "person(int, int) IndexOutOfBoundsException IllegalArgumentException",
        "removeStep(int) IndexOutOfBoundsException",
        "restore(int) IndexOutOfBoundsException IllegalStateException",
        "runScript(int, long) IllegalArgumentException",
        "save(int) IndexOutOfBoundsException",
        "setCost(int, int) IndexOutOfBoundsException IllegalArgumentException",
        "simulate(long, int) IllegalArgumentException",
        "step(int, int) IndexOutOfBoundsException IllegalArgumentException",
        "take() IllegalStateException",
        "turn(int) IndexOutOfBoundsException IllegalStateException",
        "undo() IllegalStateException",
    };

    private static final String[] WORDS_LEFT_OUT = {"try", "catch", "finally", "synchronized", "assert", "import", "package",
        "var", "protected", "volatile", "transient", "native", "strictfp", "System", "Object", "Thread", "double", "float"};

    private static int wrong = 0;

    private static void due(boolean right, String what) {
        if (!right) {
            wrong++;
            System.out.println(what);
        }
    }

    private static void methods() {
        Set<String> want = new TreeSet<>(Arrays.asList(FACE));
        Set<String> got = new TreeSet<>();
        Set<String> names = new TreeSet<>();
        for (Method method : StepPaths.class.getDeclaredMethods()) {
            if (method.isSynthetic() || Modifier.isPrivate(method.getModifiers())) {
                continue;
            }
            StringBuilder text = new StringBuilder(method.getName()).append('(');
            String between = "";
            for (Class<?> type : method.getParameterTypes()) {
                text.append(between).append(type.getSimpleName());
                between = ", ";
            }
            text.append(')');
            for (Class<?> type : method.getExceptionTypes()) {
                text.append(' ').append(type.getSimpleName());
            }
            due(method.getReturnType() == int.class, text + " does not return an int");
            due(method.getModifiers() == Modifier.PUBLIC, text + " is not just public");
            got.add(text.toString());
            names.add(method.getName());
        }
        due(got.equals(want), "the face is " + got + "\nand should be " + want);
        for (Class<?> inside : StepPaths.class.getDeclaredClasses()) {
            due(Modifier.isStatic(inside.getModifiers()), inside + " is not static");
            due(!Modifier.isPublic(inside.getModifiers()), inside + " is public");
            for (Method method : inside.getDeclaredMethods()) {
                due(!names.contains(method.getName()), inside + " has a method with the name of a public one: " + method);
            }
        }
        for (Method method : StepPaths.class.getDeclaredMethods()) {
            due(Modifier.isPublic(method.getModifiers()) || !names.contains(method.getName()),
                    method + " has the name of a public one");
        }
    }

    private static boolean isConstantType(Class<?> type) {
        return type.isPrimitive() || type == String.class || type == int[].class || type == long[].class
                || type == char[].class || type == byte[].class;
    }

    private static void fields() {
        for (Field field : StepPaths.class.getDeclaredFields()) {
            due(Modifier.isPrivate(field.getModifiers()) || isNone(field), field + " is not private");
        }
        staticsAreConstants(StepPaths.class);
        for (Class<?> inside : StepPaths.class.getDeclaredClasses()) {
            staticsAreConstants(inside);
        }
        due(StepPaths.class.getModifiers() == (Modifier.PUBLIC | Modifier.FINAL), "the class is not public and final");
        due(StepPaths.class.getDeclaredConstructors().length == 1, "there is more than one constructor");
    }

    private static boolean isNone(Member field) {
        return field.getName().equals("NONE")
                && field.getModifiers() == (Modifier.PUBLIC | Modifier.STATIC | Modifier.FINAL);
    }

    private static void staticsAreConstants(Class<?> owner) {
        for (Field field : owner.getDeclaredFields()) {
            if (Modifier.isStatic(field.getModifiers()) && !field.isSynthetic()) {
                due(Modifier.isFinal(field.getModifiers()) && isConstantType(field.getType()), field + " is no constant");
            }
        }
    }

    private static String withoutCommentsAndTexts(String source) {
        return source.replaceAll("(?s)/\\*.*?\\*/", " ").replaceAll("//[^\n]*", " ")
                .replaceAll("'(\\\\.|[^'\\\\])'", "' '").replaceAll("\"[^\"\n]*\"", "\"\"");
    }

    private static void words(String source) {
        for (String word : WORDS_LEFT_OUT) {
            due(!Pattern.compile("\\b" + word + "\\b").matcher(source).find(), "the text has the word " + word);
        }
        due(!source.contains("->"), "the text has a lambda");
        due(!source.contains("::"), "the text has a method reference");
        Matcher library = Pattern.compile("\\b(Math|Integer|Long|Arrays|String|Character)\\.(\\w+)").matcher(source);
        Set<String> allowed = Set.of("Math.min", "Math.max", "Math.abs", "Integer.bitCount");
        while (library.find()) {
            due(allowed.contains(library.group()), "the text uses " + library.group());
        }
        Matcher thrown = Pattern.compile("throw\\s+new\\s+(\\w+)").matcher(source);
        Set<String> exceptions = Set.of("IllegalStateException", "IllegalArgumentException", "IndexOutOfBoundsException");
        while (thrown.find()) {
            due(exceptions.contains(thrown.group(1)), "the text throws " + thrown.group(1));
        }
    }

    private static void lengthsOfMethods(String source) {
        Matcher method = Pattern.compile("(?m)^( {4}| {8})\\w[\\w\\[\\], <>]+\\([^;=]*?\\{$.*?^\\1\\}$", Pattern.DOTALL).matcher(source);
        while (method.find()) {
            long lines = method.group().lines().count();
            due(lines <= 60, lines + " lines: " + method.group().lines().findFirst().orElse(""));
        }
    }

    public static void main(String[] args) throws IOException {
        methods();
        fields();
        String source = Files.readString(Path.of("src/main/java/StepPaths.java"));
        due(source.chars().allMatch(c -> c < 128), "the text has a sign that is not ASCII");
        words(withoutCommentsAndTexts(source));
        lengthsOfMethods(withoutCommentsAndTexts(source));
        System.out.println(wrong + " wrong");
        if (wrong != 0) {
            System.exit(1);
        }
    }
}
