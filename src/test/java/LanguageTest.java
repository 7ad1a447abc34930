import java.io.IOException;
import java.lang.reflect.Constructor;
import java.lang.reflect.Field;
import java.lang.reflect.Method;
import java.lang.reflect.Modifier;
import java.nio.file.Files;
import java.nio.file.Path;
import java.util.ArrayList;
import java.util.HashSet;
import java.util.List;
import java.util.Set;
import java.util.TreeSet;
import java.util.regex.Matcher;
import java.util.regex.Pattern;

/** What can be told of LANGUAGE.md's rules from the program's text and its members; the rest is for who reads it. */
public final class LanguageTest {
    private static final Set<String> LIBRARY = Set.of("String", "StringBuilder", "ArrayList", "List", "Integer", "Long",
            "Math", "Arrays", "Iterator", "Iterable", "Comparable", "IllegalStateException", "IllegalArgumentException",
            "IndexOutOfBoundsException", "ArithmeticException", "UnsupportedOperationException",
            "NoSuchElementException", "RuntimeException", "Override");
    private static final Set<String> IMPORTS = Set.of("java.util.ArrayList", "java.util.List", "java.util.Arrays",
            "java.util.Iterator", "java.util.NoSuchElementException");
    private static final Set<String> NOT_MEANT = Set.of("finally", "synchronized", "assert", "native", "volatile",
            "transient", "protected", "package", "yield", "hashCode", "equals", "getClass", "wait", "notify");

    private static final int MOST_PARAMETERS = 7;
    private static final int MOST_LINES = 60;
    private static final int MOST_CLASSES = 12;
    private static final int MOST_FIELDS = 20;

    private LanguageTest() {
    }

    public static void main(String[] args) throws IOException {
        String source = Files.readString(Path.of("src/main/java/SignTiles.java"));
        String code = source.replaceAll("(?s)/\\*.*?\\*/", "").replaceAll("//[^\n]*", "");
        String words = code.replaceAll("\"[^\"\n]*\"", "\"\"");
        List<Class<?>> classes = classes();
        rule1KeepsToTheFace();
        rules2And10UseNoLambdasAndJoinNoTexts(words);
        rules3And4NameTheLibrary(words, classes);
        rule5KeepsNoStaticState(words, classes);
        rule6ThrowsWrittenTexts(code, words);
        rule11KeepsSmall(source, classes);
        Check.close("LanguageTest");
    }

    private static List<Class<?>> classes() {
        List<Class<?>> classes = new ArrayList<>();
        classes.add(SignTiles.class);
        for (int i = 0; i < classes.size(); i++) {
            classes.addAll(List.of(classes.get(i).getDeclaredClasses()));
        }
        return classes;
    }

    private static void none(String what, Set<String> found) {
        Check.same(what, found.toString(), "[]");
    }

    private static Set<String> found(String words, String pattern) {
        Set<String> found = new TreeSet<>();
        Matcher matcher = Pattern.compile(pattern).matcher(words);
        while (matcher.find()) {
            found.add(matcher.group(matcher.groupCount()));
        }
        return found;
    }

    private static void rule1KeepsToTheFace() {
        Set<String> open = new TreeSet<>();
        Set<String> hidden = new TreeSet<>();
        for (Method method : SignTiles.class.getDeclaredMethods()) {
            (Modifier.isPrivate(method.getModifiers()) ? hidden : open).add(method.getName());
        }
        hidden.retainAll(open);
        none("rule 1: private methods with the name of a public one", hidden);
        Set<String> visible = new TreeSet<>();
        for (Class<?> inside : SignTiles.class.getDeclaredClasses()) {
            if ((inside.getModifiers() & (Modifier.PUBLIC | Modifier.PROTECTED)) != 0) {
                visible.add(inside.getSimpleName());
            }
        }
        none("rule 1: classes inside that can be seen", visible);
    }

    private static void rules2And10UseNoLambdasAndJoinNoTexts(String words) {
        none("rule 2: lambdas and method references", found(words, "(->|::)"));
        none("rule 10: texts that are joined by +", found(words, "(\"\"\\s*\\+|\\+\\s*\"\")"));
    }

    private static void rules3And4NameTheLibrary(String words, List<Class<?>> classes) {
        Set<String> imports = found(words, "import\\s+([^;]+);");
        imports.removeAll(IMPORTS);
        none("rule 4: imports that it does not list", imports);
        String rest = words.replaceAll("import[^;]+;|System\\.arraycopy", "");
        Set<String> names = found(rest, "\\b([A-Z]\\w*[a-z]\\w*)\\b");
        names.removeAll(LIBRARY);
        names.remove("SignTiles");
        for (Class<?> inside : classes) {
            names.remove(inside.getSimpleName());
        }
        none("rule 4: names of classes that it does not list", names);
        none("rule 4: functions whose name ends in Exact", found(words, "\\b(\\w+Exact)\\b"));
        Set<String> wrong = found(words, "\\b([a-z]\\w*)\\b");
        wrong.retainAll(NOT_MEANT);
        none("rules 1, 6 and 13: words that it leaves out", wrong);
    }

    private static void rule5KeepsNoStaticState(String words, List<Class<?>> classes) {
        Set<String> loose = new TreeSet<>();
        for (Class<?> each : classes) {
            for (Field field : each.getDeclaredFields()) {
                int modifiers = field.getModifiers();
                if (Modifier.isStatic(modifiers) && !Modifier.isFinal(modifiers)) {
                    loose.add(field.getName());
                }
            }
        }
        none("rule 5: static fields that are not final", loose);
        none("rule 5: static blocks", found(words, "(static\\s*\\{)"));
    }

    private static void rule6ThrowsWrittenTexts(String code, String words) {
        none("rule 6: other throws", found(words, "\\bthrow\\b(?! new \\w+\\((?:\"\")?\\);)([^;]*;)"));
        none("rule 3: texts with other signs", found(code, "\"[^\"\n]*?([^\\x01-\\x7f])[^\"\n]*\""));
        Set<String> caught = found(words, "catch\\s*\\(([^)]*)\\)");
        none("what the machine throws is caught", with(caught, "(?s).*\\b(Throwable|Exception|RuntimeException|"
                + "\\w*IndexOutOfBoundsException|NullPointerException|ArithmeticException|ClassCastException|"
                + "NegativeArraySizeException|ArrayStoreException)\\b.*"));
    }

    private static Set<String> with(Set<String> words, String pattern) {
        Set<String> chosen = new HashSet<>(words);
        chosen.removeIf(word -> !word.matches(pattern));
        return chosen;
    }

    private static void rule11KeepsSmall(String source, List<Class<?>> classes) {
        Check.same("rule 11: whether there are few classes", classes.size() <= MOST_CLASSES, true);
        for (Class<?> each : classes) {
            int fields = 0;
            for (Field field : each.getDeclaredFields()) {
                fields += Modifier.isStatic(field.getModifiers()) ? 0 : 1;
            }
            Check.same("rule 11: whether " + each.getName() + " has few fields", fields <= MOST_FIELDS, true);
            for (Method method : each.getDeclaredMethods()) {
                takesFew(method.getName(), method.getParameterCount());
            }
            for (Constructor<?> constructor : each.getDeclaredConstructors()) {
                takesFew(constructor.getName(), constructor.getParameterCount());
            }
        }
        methodsAreShort(source);
    }

    private static void methodsAreShort(String source) {
        Matcher body = Pattern.compile("(?m)^( {4}| {8})[^ }/*@\n][^;]*?\\{\n(?s:.*?)^\\1\\}$").matcher(source);
        int bodies = 0;
        int from = 0;
        while (body.find(from)) {
            String first = body.group().strip().split("\n")[0];
            boolean isClass = first.contains(" class ");
            // What stands inside a class is looked at next.
            from = isClass ? source.indexOf('\n', body.start()) : body.end();
            if (!isClass) {
                bodies++;
                boolean isShort = body.group().lines().count() <= MOST_LINES;
                Check.same("rule 11: whether this is short: " + first, isShort, true);
            }
        }
        Check.same("whether methods were looked at", bodies > 60, true);
    }

    private static void takesFew(String name, int parameters) {
        Check.same("rule 11: whether " + name + " has few parameters", parameters <= MOST_PARAMETERS, true);
    }
}
