import java.io.IOException;
import java.lang.reflect.Field;
import java.lang.reflect.Method;
import java.lang.reflect.Modifier;
import java.nio.file.Files;
import java.nio.file.Path;
import java.util.ArrayList;
import java.util.Arrays;
import java.util.List;
import java.util.Set;
import java.util.TreeSet;
import java.util.regex.Matcher;
import java.util.regex.Pattern;

/** The rules of LANGUAGE.md that can be read off the file, without its comments, and the compiled class. */
public final class LanguageTest {
    private static final Path FILE = Path.of("src/main/java/AddressClaimBus.java");
    private static final String[] FORBIDDEN = {
        "package", "import", "throw", "throws", "try", "catch", "synchronized", "assert", "volatile", "transient",
        "native", "float", "double", "var", "equals", "hashCode", "toString", "Thread", "Random", "Object",
    };

    public static void main(String[] args) throws IOException {
        String code = withoutComments(Files.readString(FILE));
        List<Class<?>> classes = new ArrayList<>(List.of(AddressClaimBus.class));
        classes.addAll(Arrays.asList(AddressClaimBus.class.getDeclaredClasses()));
        names(classes);
        nestedClasses(classes);
        fields(classes);
        library(code);
        words(code);
        lengths(code);
        objectsOfConstructorsOnly(code);
        Check.end();
    }

    private static String withoutComments(String text) {
        return text.replaceAll("(?s)/\\*.*?\\*/", "").replaceAll("//[^\n]*", "");
    }

    private static void names(List<Class<?>> classes) {
        Set<String> face = new TreeSet<>();
        for (Method method : AddressClaimBus.class.getDeclaredMethods()) {
            if (Modifier.isPublic(method.getModifiers())) {
                face.add(method.getName());
            }
        }
        for (Class<?> each : classes) {
            for (Method method : each.getDeclaredMethods()) {
                boolean shown = Modifier.isPublic(method.getModifiers());
                Check.of("rule 1: no private method bears the name of a public one");
                Check.due(each.getSimpleName() + "." + method.getName(), face.contains(method.getName()), shown);
                Check.of("rule 11: at most seven parameters");
                Check.due(each.getSimpleName() + "." + method.getName(), method.getParameterCount() <= 7, true);
            }
        }
    }

    private static void nestedClasses(List<Class<?>> classes) {
        Check.of("rules 1, 2 and 11: classes inside are private and static, at most some twelve");
        Check.due("classes", classes.size() <= 12, true);
        for (Class<?> each : classes.subList(1, classes.size())) {
            int modifiers = each.getModifiers();
            Check.due("static " + each, Modifier.isStatic(modifiers), true);
            Check.due("private " + each, Modifier.isPrivate(modifiers), true);
            Check.due("no class inside " + each, each.getDeclaredClasses().length, 0);
            Check.due("of Object " + each, each.getSuperclass() == Object.class, true);
        }
    }

    private static void fields(List<Class<?>> classes) {
        for (Class<?> each : classes) {
            int count = 0;
            for (Field field : each.getDeclaredFields()) {
                if (Modifier.isStatic(field.getModifiers())) {
                    Check.of("rule 5: static fields are final constants of int, long");
                    Check.due(field.toString(), Modifier.isFinal(field.getModifiers()), true);
                    Check.due(field.toString(), isNumber(field.getType()), true);
                } else {
                    count++;
                    Check.of("rule 3: numbers, booleans, own classes, arrays of one dimension of them");
                    Check.due(field.toString(), isAllowed(field.getType(), classes), true);
                }
            }
            Check.of("rule 11: a class has some twenty fields");
            Check.due("fields of " + each, count <= 20, true);
        }
    }

    private static boolean isNumber(Class<?> type) {
        return type == int.class || type == long.class;
    }

    private static boolean isAllowed(Class<?> type, List<Class<?>> classes) {
        Class<?> element = type.isArray() ? type.getComponentType() : type;
        return isNumber(element) || element == boolean.class || classes.contains(element);
    }

    private static void library(String code) {
        Check.of("rule 4: of the library Math.min alone");
        Matcher call = Pattern.compile("\\b(Math|Integer|Long|System|Arrays|String\\w*|List|ArrayList)\\b(\\.\\w+)?")
                .matcher(code);
        while (call.find()) {
            Check.due(call.group(), call.group().equals("Math.min"), true);
        }
    }

    private static void words(String code) {
        Check.of("rules 2, 4, 6 and 13: not to be used");
        for (String word : FORBIDDEN) {
            Check.due(word, Pattern.compile("\\b" + word + "\\b").matcher(code).find(), false);
        }
        Check.due("a lambda", code.contains("->"), false);
        Check.due("a method reference", code.contains("::"), false);
        Check.due("a text", code.contains("\""), false);
    }

    /** A method ends with a brace that stands as far from the left as its head. */
    private static void lengths(String code) {
        Check.of("rule 11: methods stay short (some sixty lines)");
        String[] lines = code.split("\n");
        for (int i = 0; i < lines.length; i++) {
            if (isHeadOfMethod(lines[i])) {
                int margin = lines[i].length() - lines[i].stripLeading().length();
                int end = i;
                while (end < lines.length && !lines[end].equals(" ".repeat(margin) + "}")) {
                    end++;
                }
                Check.due(lines[i].trim() + " " + (end - i + 1), end - i + 1 <= 60, true);
            }
        }
    }

    private static boolean isHeadOfMethod(String text) {
        return text.matches(" +\\w[^=]*\\) \\{") && !text.matches(" +(if|for|while|switch)\\b.*");
    }

    /** All that an object needs is made with it, so that the calls after that take no room. */
    private static void objectsOfConstructorsOnly(String code) {
        Check.of("rule 12: what a run makes is counted");
        String method = "";
        for (String text : code.split("\n")) {
            if (isHeadOfMethod(text)) {
                method = text.trim();
            }
            if (text.contains(" new ")) {
                boolean inField = text.matches(" {8}final \\S+ \\w+ = new .*");
                boolean inConstructor = method.matches("(public )?[A-Z]\\w*\\(.*");
                Check.due(text.trim() + " in " + method, inField || inConstructor, true);
            }
        }
    }
}
