import java.util.function.Consumer;
import java.util.function.Supplier;

/** Counts what the tests find, and prints what is not as due. */
final class Check {
    private static int passed = 0;
    private static int failed = 0;

    private Check() {
    }

    static void same(String what, long got, long due) {
        judge(got == due, what + " answered " + got + ", due is " + due);
    }

    static void same(String what, boolean got, boolean due) {
        judge(got == due, what + " answered " + got + ", due is " + due);
    }

    static void same(String what, String got, String due) {
        judge(got.equals(due), what + "\n  answered " + got + "\n  due is   " + due);
    }

    /** The call throws exactly this, and leaves an object that was set up the same way as it was. */
    static void refused(String what, Class<? extends RuntimeException> due, Supplier<SignTiles> setUp,
            Consumer<SignTiles> call) {
        SignTiles map = setUp.get();
        String thrown = "nothing";
        try {
            call.accept(map);
        } catch (RuntimeException e) {
            thrown = nameOf(e);
        }
        same(what + " throws", thrown, due.getName());
        same(what + " changes nothing", View.of(map), View.of(setUp.get()));
    }

    /** What a library throws by itself may bear the very name that is due; its trace tells it. */
    static String nameOf(RuntimeException e) {
        StackTraceElement[] trace = e.getStackTrace();
        boolean isThrownByTheMap = trace.length > 0 && trace[0].getClassName().equals("SignTiles");
        return e.getClass().getName() + (isThrownByTheMap ? "" : " of the machine");
    }

    static void noIndex(String what, Supplier<SignTiles> setUp, Consumer<SignTiles> call) {
        refused(what, IndexOutOfBoundsException.class, setUp, call);
    }

    static void noArgument(String what, Supplier<SignTiles> setUp, Consumer<SignTiles> call) {
        refused(what, IllegalArgumentException.class, setUp, call);
    }

    static void noState(String what, Supplier<SignTiles> setUp, Consumer<SignTiles> call) {
        refused(what, IllegalStateException.class, setUp, call);
    }

    /** Ends the program: with 1 if something was not as due. */
    static void close(String test) {
        System.out.println(test + ": " + passed + " answers as due, " + failed + " not");
        System.exit(failed == 0 && passed > 0 ? 0 : 1);
    }

    private static void judge(boolean isAsDue, String words) {
        if (isAsDue) {
            passed++;
        } else {
            failed++;
            System.out.println("WRONG: " + words);
        }
    }
}
