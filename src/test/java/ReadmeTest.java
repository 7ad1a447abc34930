import java.io.IOException;
import java.lang.reflect.InvocationTargetException;
import java.lang.reflect.Method;
import java.lang.reflect.Modifier;
import java.nio.file.Files;
import java.nio.file.Path;
import java.util.Set;
import java.util.TreeSet;
import java.util.regex.Matcher;
import java.util.regex.Pattern;

/** README.md: each call of its example answers what stands behind it, and its table names all calls. */
public final class ReadmeTest {
    /** A call of the example, whether its answer is kept or not, and the answer that stands behind it. */
    private static final Pattern LINE = Pattern.compile("(int way = )?map\\.(\\w+)\\((.*)\\); +// ([^:]+): .+");

    private final SignTiles map = new SignTiles();
    private final Set<String> tried = new TreeSet<>();
    private int way = SignTiles.NONE;

    private ReadmeTest() {
    }

    public static void main(String[] args) throws IOException, ReflectiveOperationException {
        String readme = Files.readString(Path.of("README.md"));
        ReadmeTest test = new ReadmeTest();
        for (String line : example(readme)) {
            test.tryLine(line.strip());
        }
        Check.same("whether the example tries most calls", test.tried.size() > 20, true);
        for (Method method : SignTiles.class.getDeclaredMethods()) {
            if (Modifier.isPublic(method.getModifiers())) {
                Check.same("whether the table names " + method.getName(),
                        Pattern.compile("(?m)^\\| .*`" + method.getName() + "`").matcher(readme).find(), true);
            }
        }
        Check.close("ReadmeTest");
    }

    private static String[] example(String readme) {
        int begin = readme.indexOf("```java\n") + "```java\n".length();
        return readme.substring(begin, readme.indexOf("```", begin)).split("\n");
    }

    private void tryLine(String line) throws ReflectiveOperationException {
        boolean isOfWords = line.isEmpty() || line.startsWith("//") || line.equals("SignTiles map = new SignTiles();");
        Matcher matcher = LINE.matcher(line);
        if (isOfWords || !matcher.matches()) {
            Check.same("whether this is a call and its answer: " + line, isOfWords, true);
            return;
        }
        String answer = answerOf(matcher.group(2), matcher.group(3));
        if (matcher.group(1) != null) {
            way = Integer.parseInt(answer);
        }
        Check.same(line, answer, matcher.group(4));
    }

    private String answerOf(String name, String words) throws ReflectiveOperationException {
        tried.add(name);
        String[] parts = words.isEmpty() ? new String[0] : words.split(", ");
        Object[] arguments = new Object[parts.length];
        for (int i = 0; i < parts.length; i++) {
            arguments[i] = argumentOf(parts[i]);
        }
        try {
            return methodOf(name).invoke(map, arguments).toString();
        } catch (InvocationTargetException e) {
            return e.getCause().getClass().getSimpleName();
        }
    }

    private static Method methodOf(String name) throws NoSuchMethodException {
        for (Method method : SignTiles.class.getDeclaredMethods()) {
            if (method.getName().equals(name)) {
                return method;
            }
        }
        throw new NoSuchMethodException(name);
    }

    private Object argumentOf(String word) throws ReflectiveOperationException {
        if (word.equals("true") || word.equals("false")) {
            return Boolean.valueOf(word);
        }
        if (word.startsWith("SignTiles.")) {
            return SignTiles.class.getField(word.substring("SignTiles.".length())).getInt(null);
        }
        return word.equals("way") ? Integer.valueOf(way) : Integer.valueOf(word);
    }
}
