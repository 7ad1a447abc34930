import java.util.function.Supplier;

/** Long runs of all calls, each answered by SignTiles as by NaiveMap. The same runs each time. */
public final class RunTest {
    private static final int RUNS = 400;
    private static final int CALLS = 512;

    private final SignTiles map = new SignTiles();
    private final NaiveMap naive = new NaiveMap();
    private final int mostWays;
    private long state;
    private int calls = 0;

    private RunTest(int run) {
        state = 7919L * run + 1;
        mostWays = run % 5 == 0 ? 41 : 1 + run % 7;
    }

    public static void main(String[] args) {
        for (int run = 0; run < RUNS; run++) {
            RunTest test = new RunTest(run);
            while (test.calls < CALLS) {
                test.callOne(run);
            }
        }
        Check.close("RunTest");
    }

    /** A row of numbers that looks like chance, and is not: a run can be told by its number alone. */
    private int next(int bound) {
        state = state * 6364136223846793005L + 1442695040888963407L;
        return (int) ((state >>> 33) % bound);
    }

    /** A number from 0 on, below the bound; now and then one outside. */
    private int near(int bound) {
        int chance = next(60);
        if (chance == 0) {
            return -1 - next(3);
        }
        return chance == 1 || bound == 0 ? bound + next(3) : next(bound);
    }

    private void callOne(int run) {
        int kind = next(100);
        if (calls < 4 || kind < 8 && naive.ways() < mostWays) {
            addWay(run);
        } else if (kind < 45) {
            callOfEditors(run, next(9));
        } else if (kind < 70) {
            callOfTiles(run, next(10));
        } else {
            callOfCars(run, next(9));
        }
    }

    private void addWay(int run) {
        int editor = near(6);
        int x = near(17);
        int y = near(17);
        int toRight = 1 + next(Math.max(1, 16 - x));
        int downwards = -1 - next(Math.max(1, 16 - y));
        int length = next(30) == 0 ? next(40) - 20 : next(2) == 0 ? toRight : downwards;
        int kind = near(4);
        compare(run, words("addWay", editor, x, y, length, kind), () -> map.addWay(editor, x, y, length, kind),
                () -> naive.addWay(editor, x, y, length, kind));
    }

    private void callOfEditors(int run, int which) {
        int editor = near(6);
        int way = near(naive.ways());
        int kind = near(4);
        int direction = near(3);
        int guard = next(40) == 0 ? near(101) : 40 + 5 * next(5) + next(2);
        boolean isRefused = next(3) == 0;
        int version = near(way < 0 || way >= naive.ways() ? 1 : naive.versions(way));
        switch (which) {
            case 0, 1 -> compare(run, words("edit", editor, way, kind, direction),
                    () -> map.edit(editor, way, kind, direction), () -> naive.edit(editor, way, kind, direction));
            case 2, 3 -> compare(run, words("judge", editor, way, isRefused ? 1 : 0),
                    () -> map.judge(editor, way, isRefused), () -> naive.judge(editor, way, isRefused));
            case 4 -> compare(run, words("revert", editor, way), () -> map.revert(editor, way),
                    () -> naive.revert(editor, way));
            case 5 -> compare(run, words("guard", way, guard), () -> map.guard(way, guard),
                    () -> naive.guard(way, guard));
            case 6 -> compare(run, words("version", way, version), () -> map.version(way, version),
                    () -> naive.version(way, version));
            case 7 -> compare(run, words("stampOf", way, version), () -> map.stampOf(way, version),
                    () -> naive.stampOf(way, version));
            default -> askOfEditors(run, next(5), editor, way);
        }
    }

    private void askOfEditors(int run, int which, int editor, int way) {
        switch (which) {
            case 0 -> compare(run, words("trust", editor), () -> map.trust(editor), () -> naive.trust(editor));
            case 1 -> compare(run, "ways()", map::ways, naive::ways);
            case 2 -> compare(run, words("versions", way), () -> map.versions(way), () -> naive.versions(way));
            case 3 -> compare(run, words("waiting", way), () -> map.waiting(way), () -> naive.waiting(way));
            default -> compare(run, "clock()", map::clock, naive::clock);
        }
    }

    private void callOfTiles(int run, int which) {
        int zoom = near(5);
        int across = zoom < 0 || zoom > 4 ? 1 : 1 << zoom;
        int x = near(across);
        int y = near(across);
        switch (which) {
            case 0, 1, 2, 3 -> compare(run, words("draw", zoom, x, y), () -> map.draw(zoom, x, y),
                    () -> naive.draw(zoom, x, y));
            case 4 -> compare(run, words("picture", zoom, x, y), () -> map.picture(zoom, x, y),
                    () -> naive.picture(zoom, x, y));
            case 5 -> compare(run, words("pictureAnew", zoom, x, y), () -> map.pictureAnew(zoom, x, y),
                    () -> naive.pictureAnew(zoom, x, y));
            case 6 -> compare(run, words("tileStamp", zoom, x, y), () -> map.tileStamp(zoom, x, y),
                    () -> naive.tileStamp(zoom, x, y));
            case 7 -> compare(run, words("isStale", zoom, x, y), () -> map.isStale(zoom, x, y),
                    () -> naive.isStale(zoom, x, y));
            case 8 -> compare(run, words("staleTiles", zoom), () -> map.staleTiles(zoom),
                    () -> naive.staleTiles(zoom));
            default -> refreshSeldom(run, zoom);
        }
    }

    /** If it was often, hardly a tile would ever be stale. */
    private void refreshSeldom(int run, int zoom) {
        if (next(4) == 0) {
            compare(run, "refresh()", map::refresh, naive::refresh);
        } else {
            compare(run, words("staleTiles", zoom), () -> map.staleTiles(zoom), () -> naive.staleTiles(zoom));
        }
    }

    private void callOfCars(int run, int which) {
        int car = near(3);
        int way = near(naive.ways());
        int direction = near(3);
        int doubt = next(40) == 0 ? near(100) : next(100);
        switch (which) {
            case 0, 1 -> drive(run, car, way);
            case 2, 3, 4 -> {
                if (next(10) != 0) {
                    drive(run, car, way);
                }
                compare(run, words("see", car, way, direction, doubt), () -> map.see(car, way, direction, doubt),
                        () -> naive.see(car, way, direction, doubt));
            }
            case 5 -> compare(run, words("sightings", way), () -> map.sightings(way), () -> naive.sightings(way));
            case 6 -> compare(run, words("dear", way), () -> map.dear(way), () -> naive.dear(way));
            case 7 -> compare(run, words("target", car), () -> map.target(car), () -> naive.target(car));
            default -> {
                if (next(2) == 0) {
                    compare(run, words("send", car), () -> map.send(car), () -> naive.send(car));
                } else {
                    compare(run, words("carAt", car), () -> map.carAt(car), () -> naive.carAt(car));
                }
            }
        }
    }

    /** Mostly to where a sign of the way can be seen. */
    private void drive(int run, int car, int way) {
        boolean isAnywhere = way < 0 || way >= naive.ways() || next(5) == 0;
        int[] crossing = isAnywhere ? new int[] {near(17), near(17)} : next(2) == 0 ? naive.begin(way) : naive.end(way);
        int x = crossing[0];
        int y = crossing[1];
        compare(run, words("drive", car, x, y), () -> map.drive(car, x, y), () -> naive.drive(car, x, y));
    }

    private void compare(int run, String call, Supplier<Object> got, Supplier<Object> due) {
        // A step of two calls might be the last one, and nothing is promised beyond that.
        if (calls < CALLS) {
            calls++;
            Check.same("run " + run + ", call " + calls + ", " + call, answer(got, true), answer(due, false));
        }
    }

    private static String answer(Supplier<Object> call, boolean isOfTheMap) {
        try {
            return call.get().toString();
        } catch (RuntimeException e) {
            return isOfTheMap ? Check.nameOf(e) : e.getClass().getName();
        }
    }

    private static String words(String name, int... arguments) {
        StringBuilder words = new StringBuilder(name).append('(');
        for (int i = 0; i < arguments.length; i++) {
            words.append(i == 0 ? "" : ", ").append(arguments[i]);
        }
        return words.append(')').toString();
    }
}
