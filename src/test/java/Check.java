import java.util.function.Consumer;
import java.util.function.Supplier;

/** Counts what the tests find, and prints what is not as due. */
final class Check {
    private static final int LAST_PROMISE = 27;

    private static final boolean[] named = new boolean[LAST_PROMISE + 1];
    private static String sentence = "";
    private static int passed = 0;
    private static int failed = 0;

    private Check() {
    }

    /** A call with one argument that has a range. */
    interface Call {
        void on(SignTiles map, int argument);
    }

    /** What the checks from here on are about: a promise, and the document's words, which are printed if one fails. */
    static void sentence(int promise, String words) {
        named[promise] = true;
        sentence = "promise " + promise + ", \"" + words + "\": ";
    }

    static void namedAll(int first, int last) {
        sentence = "";
        for (int promise = first; promise <= last; promise++) {
            same("whether promise " + promise + " was named", named[promise], true);
        }
    }

    static void same(String what, long got, long due) {
        judge(got == due, what + " answered " + got + ", due is " + due);
    }

    static void same(String what, boolean got, boolean due) {
        judge(got == due, what + " answered " + got + ", due is " + due);
    }

    static void same(String what, String got, String due) {
        judge(got.equals(due), what + "\n  answered " + got + "\n  due is   " + due);
    }

    /** The call throws exactly this, and leaves an object that was set up the same way as it was. */
    static void refused(String what, Class<? extends RuntimeException> due, Supplier<SignTiles> setUp,
            Consumer<SignTiles> call) {
        SignTiles map = setUp.get();
        thrown(what, due, map, call);
        same(what + " changes nothing", View.of(map), View.of(setUp.get()));
    }

    static void thrown(String what, Class<? extends RuntimeException> due, SignTiles map, Consumer<SignTiles> call) {
        same(what + " throws", thrownBy(map, call), due.getName());
    }

    static void accepted(String what, Supplier<SignTiles> setUp, Consumer<SignTiles> call) {
        same(what + " throws", thrownBy(setUp.get(), call), "nothing");
    }

    /** A call that only asks. */
    static void changesNothing(String what, Supplier<SignTiles> setUp, Consumer<SignTiles> call) {
        SignTiles map = setUp.get();
        same(what + " throws", thrownBy(map, call), "nothing");
        same(what + " changes nothing", View.of(map), View.of(setUp.get()));
    }

    private static String thrownBy(SignTiles map, Consumer<SignTiles> call) {
        try {
            call.accept(map);
        } catch (RuntimeException e) {
            return nameOf(e);
        }
        return "nothing";
    }

    /** What a library throws by itself may bear the very name that is due; its trace tells it. */
    static String nameOf(RuntimeException e) {
        StackTraceElement[] trace = e.getStackTrace();
        boolean isThrownByTheMap = trace.length > 0 && trace[0].getClassName().equals("SignTiles");
        return e.getClass().getName() + (isThrownByTheMap ? "" : " of the machine");
    }

    static void noIndex(String what, Supplier<SignTiles> setUp, Consumer<SignTiles> call) {
        refused(what, IndexOutOfBoundsException.class, setUp, call);
    }

    static void noArgument(String what, Supplier<SignTiles> setUp, Consumer<SignTiles> call) {
        refused(what, IllegalArgumentException.class, setUp, call);
    }

    static void noState(String what, Supplier<SignTiles> setUp, Consumer<SignTiles> call) {
        refused(what, IllegalStateException.class, setUp, call);
    }

    /** Each number from the first to the last can be, and those just outside and far outside throw what is due. */
    static void range(Class<? extends RuntimeException> due, Supplier<SignTiles> setUp, int first, int last,
            Call call) {
        for (int argument = first; argument <= last; argument++) {
            int chosen = argument;
            accepted("with " + chosen + " the call", setUp, map -> call.on(map, chosen));
        }
        outside(due, setUp, first, last, call);
    }

    static void outside(Class<? extends RuntimeException> due, Supplier<SignTiles> setUp, int first, int last,
            Call call) {
        for (int wrong : new int[] {first - 1, last + 1, Integer.MIN_VALUE, Integer.MAX_VALUE}) {
            refused("with " + wrong + " the call", due, setUp, map -> call.on(map, wrong));
        }
    }

    static void indexRange(Supplier<SignTiles> setUp, int first, int last, Call call) {
        range(IndexOutOfBoundsException.class, setUp, first, last, call);
    }

    static void argumentRange(Supplier<SignTiles> setUp, int first, int last, Call call) {
        range(IllegalArgumentException.class, setUp, first, last, call);
    }

    /** Of a way: none in a new object, the two of a rich map, and forty. */
    static void wayRange(Call call) {
        outside(IndexOutOfBoundsException.class, SignTiles::new, 0, -1, call);
        indexRange(Maps::rich, 0, 1, call);
        indexRange(Maps::full, 0, 39, call);
    }

    /** Ends the program: with 1 if something was not as due. */
    static void close(String test) {
        System.out.println(test + ": " + passed + " answers as due, " + failed + " not");
        System.exit(failed == 0 && passed > 0 ? 0 : 1);
    }

    private static void judge(boolean isAsDue, String words) {
        if (isAsDue) {
            passed++;
        } else {
            failed++;
            System.out.println("WRONG: " + sentence + words);
        }
    }
}
