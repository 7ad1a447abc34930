import java.lang.reflect.Constructor;
import java.lang.reflect.Field;
import java.lang.reflect.Method;
import java.lang.reflect.Modifier;
import java.util.ArrayList;
import java.util.Collections;
import java.util.List;

/** The public face: every member that the document tells, and no other. */
public final class FaceTest {
    private static final String INDEX = "IndexOutOfBoundsException";
    private static final String ARGUMENT = "IllegalArgumentException";
    private static final String STATE = "IllegalStateException";

    private static final String[] METHODS = {
        "int addWay(int int int int int) " + INDEX + " " + ARGUMENT + " " + STATE,
        "boolean edit(int int int int) " + INDEX + " " + ARGUMENT + " " + STATE,
        "int judge(int int boolean) " + INDEX + " " + STATE,
        "int revert(int int) " + INDEX + " " + STATE,
        "int guard(int int) " + INDEX + " " + ARGUMENT,
        "int trust(int) " + INDEX,
        "int ways()",
        "int versions(int) " + INDEX,
        "int version(int int) " + INDEX,
        "int stampOf(int int) " + INDEX,
        "int waiting(int) " + INDEX,
        "int clock()",
        "int draw(int int int) " + INDEX,
        "int picture(int int int) " + INDEX + " " + STATE,
        "int pictureAnew(int int int) " + INDEX + " " + STATE,
        "int tileStamp(int int int) " + INDEX,
        "boolean isStale(int int int) " + INDEX,
        "int staleTiles(int) " + INDEX,
        "int refresh()",
        "int drive(int int int) " + INDEX,
        "boolean see(int int int int) " + INDEX + " " + ARGUMENT + " " + STATE,
        "int sightings(int) " + INDEX,
        "int dear(int) " + INDEX,
        "int target(int) " + INDEX,
        "int send(int) " + INDEX + " " + STATE,
        "int carAt(int) " + INDEX,
    };

    private FaceTest() {
    }

    public static void main(String[] args) throws IllegalAccessException {
        int modifiers = SignTiles.class.getModifiers();
        Check.same("the class is public", Modifier.isPublic(modifiers), true);
        Check.same("the class is final", Modifier.isFinal(modifiers), true);
        Check.same("the methods", sorted(methods()), sorted(List.of(METHODS)));
        Check.same("the constants", sorted(constants()), sorted(List.of("AGAINST 2", "ALONG 1", "BOTH 0",
                "HIGHWAY 3", "LANE 0", "NONE -1", "ROAD 2", "STREET 1")));
        constructors();
        Check.close("FaceTest");
    }

    private static void constructors() {
        Constructor<?>[] constructors = SignTiles.class.getDeclaredConstructors();
        Check.same("how many constructors", constructors.length, 1);
        Check.same("the constructor's parameters", constructors[0].getParameterCount(), 0);
        Check.same("the constructor is public", Modifier.isPublic(constructors[0].getModifiers()), true);
    }

    private static List<String> methods() {
        List<String> methods = new ArrayList<>();
        for (Method method : SignTiles.class.getDeclaredMethods()) {
            if (!Modifier.isPrivate(method.getModifiers())) {
                methods.add(words(method));
            }
        }
        return methods;
    }

    private static String words(Method method) {
        StringBuilder words = new StringBuilder();
        words.append(method.getReturnType().getSimpleName()).append(' ').append(method.getName()).append('(');
        for (int i = 0; i < method.getParameterCount(); i++) {
            words.append(i == 0 ? "" : " ").append(method.getParameterTypes()[i].getSimpleName());
        }
        words.append(')');
        for (Class<?> thrown : method.getExceptionTypes()) {
            words.append(' ').append(thrown.getSimpleName());
        }
        return words.toString();
    }

    private static List<String> constants() throws IllegalAccessException {
        List<String> constants = new ArrayList<>();
        for (Field field : SignTiles.class.getDeclaredFields()) {
            if (!Modifier.isPrivate(field.getModifiers())) {
                constants.add(field.getName() + " " + field.get(null));
            }
        }
        return constants;
    }

    private static String sorted(List<String> words) {
        List<String> sorted = new ArrayList<>(words);
        Collections.sort(sorted);
        return String.join("; ", sorted);
    }
}
