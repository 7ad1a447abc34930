import java.util.ArrayList;
import java.util.HashMap;
import java.util.List;
import java.util.Map;

/**
 * The document once more, held as differently from SignTiles as can be: every version in one list, every crossing of
 * a way by itself, sightings one behind the other. It is slow, and meant to be looked at beside the document.
 */
final class NaiveMap {
    record Version(int way, int kind, int direction, int maker, int stamp) {
        int coded() {
            return 100 * kind + 10 * direction + (maker + 1);
        }
    }

    record Sighting(int car, int direction, int doubt) {
    }

    record Drawn(int stamp, int picture) {
    }

    final List<List<int[]>> crossings = new ArrayList<>();
    final List<Version> history = new ArrayList<>();
    final Map<Integer, Version> waiting = new HashMap<>();
    final Map<Integer, Integer> guards = new HashMap<>();
    final List<List<Sighting>> sightings = new ArrayList<>();
    final Map<String, Drawn> drawn = new HashMap<>();
    final int[] trusts = {50, 50, 50, 50, 50, 50};
    final int[][] cars = {{0, 0}, {0, 0}, {0, 0}};

    int addWay(int editor, int x, int y, int length, int kind) {
        index(editor, 6);
        index(x, 17);
        index(y, 17);
        boolean isLength = length != 0 && length >= -16 && length <= 16;
        List<int[]> points = new ArrayList<>();
        for (int i = 0; isLength && i <= Math.abs(length); i++) {
            points.add(length > 0 ? new int[] {x + i, y} : new int[] {x, y + i});
        }
        for (int[] point : points) {
            index(point[0], 17);
            index(point[1], 17);
        }
        argument(isLength);
        argument(kind >= 0 && kind <= 3);
        state(crossings.size() < 40);
        crossings.add(points);
        sightings.add(new ArrayList<>());
        history.add(new Version(crossings.size() - 1, kind, 0, editor, clock() + 1));
        return crossings.size() - 1;
    }

    boolean edit(int editor, int way, int kind, int direction) {
        index(editor, 6);
        index(way, crossings.size());
        argument(kind >= 0 && kind <= 3);
        argument(direction >= 0 && direction <= 2);
        state(latest(way).kind() != kind || latest(way).direction() != direction);
        Version wanted = new Version(way, kind, direction, editor, 0);
        if (trusts[editor] >= guards.getOrDefault(way, 0)) {
            become(wanted);
            return true;
        }
        waiting.put(way, wanted);
        return false;
    }

    int judge(int editor, int way, boolean isRefused) {
        index(editor, 6);
        index(way, crossings.size());
        state(waiting.containsKey(way));
        Version wanted = waiting.get(way);
        state(wanted.maker() != editor);
        state(trusts[editor] >= guards.getOrDefault(way, 0));
        if (isRefused) {
            waiting.remove(way);
        } else {
            become(wanted);
        }
        return trustBy(wanted.maker(), isRefused ? -5 : 5);
    }

    int revert(int editor, int way) {
        index(editor, 6);
        index(way, crossings.size());
        List<Version> versions = versionsOf(way);
        state(versions.size() >= 2);
        int maker = latest(way).maker();
        state(maker != -1);
        state(maker != editor);
        state(trusts[editor] > trusts[maker]);
        Version earlier = versions.get(versions.size() - 2);
        become(new Version(way, earlier.kind(), earlier.direction(), editor, 0));
        return trustBy(maker, -10);
    }

    int guard(int way, int guard) {
        index(way, crossings.size());
        argument(guard >= 0 && guard <= 100);
        int before = guards.getOrDefault(way, 0);
        guards.put(way, guard);
        return before;
    }

    int trust(int editor) {
        index(editor, 6);
        return trusts[editor];
    }

    int ways() {
        return crossings.size();
    }

    int versions(int way) {
        index(way, crossings.size());
        return versionsOf(way).size();
    }

    int version(int way, int version) {
        index(way, crossings.size());
        index(version, versionsOf(way).size());
        return versionsOf(way).get(version).coded();
    }

    int stampOf(int way, int version) {
        index(way, crossings.size());
        index(version, versionsOf(way).size());
        return versionsOf(way).get(version).stamp();
    }

    int waiting(int way) {
        index(way, crossings.size());
        return waiting.containsKey(way) ? waiting.get(way).coded() : -1;
    }

    int clock() {
        return history.size();
    }

    int draw(int zoom, int x, int y) {
        tile(zoom, x, y);
        List<Version> shown = shown(zoom, x, y, clock());
        drawn.put(key(zoom, x, y), new Drawn(clock(), picture(shown)));
        return shown.size();
    }

    int picture(int zoom, int x, int y) {
        tile(zoom, x, y);
        state(drawn.containsKey(key(zoom, x, y)));
        return drawn.get(key(zoom, x, y)).picture();
    }

    int pictureAnew(int zoom, int x, int y) {
        tile(zoom, x, y);
        state(drawn.containsKey(key(zoom, x, y)));
        return picture(shown(zoom, x, y, drawn.get(key(zoom, x, y)).stamp()));
    }

    int tileStamp(int zoom, int x, int y) {
        tile(zoom, x, y);
        return drawn.containsKey(key(zoom, x, y)) ? drawn.get(key(zoom, x, y)).stamp() : -1;
    }

    boolean isStale(int zoom, int x, int y) {
        tile(zoom, x, y);
        if (!drawn.containsKey(key(zoom, x, y))) {
            return false;
        }
        int stamp = drawn.get(key(zoom, x, y)).stamp();
        for (Version version : history) {
            if (version.stamp() > stamp && isPartIn(version.way(), zoom, x, y)) {
                List<Version> versions = versionsOf(version.way());
                int at = versions.indexOf(version);
                if (isShown(version, zoom) || at > 0 && isShown(versions.get(at - 1), zoom)) {
                    return true;
                }
            }
        }
        return false;
    }

    int staleTiles(int zoom) {
        index(zoom, 5);
        int count = 0;
        for (int x = 0; x < 1 << zoom; x++) {
            for (int y = 0; y < 1 << zoom; y++) {
                count += isStale(zoom, x, y) ? 1 : 0;
            }
        }
        return count;
    }

    int refresh() {
        int count = 0;
        for (int zoom = 0; zoom < 5; zoom++) {
            for (int x = 0; x < 1 << zoom; x++) {
                for (int y = 0; y < 1 << zoom; y++) {
                    if (isStale(zoom, x, y)) {
                        draw(zoom, x, y);
                        count++;
                    }
                }
            }
        }
        return count;
    }

    int drive(int car, int x, int y) {
        index(car, 3);
        index(x, 17);
        index(y, 17);
        int distance = distance(car, new int[] {x, y});
        cars[car] = new int[] {x, y};
        return distance;
    }

    boolean see(int car, int way, int direction, int doubt) {
        index(car, 3);
        index(way, crossings.size());
        argument(direction >= 0 && direction <= 2);
        argument(doubt >= 0 && doubt <= 99);
        state(distance(car, begin(way)) == 0 || distance(car, end(way)) == 0);
        List<Sighting> kept = sightings.get(way);
        kept.removeIf(s -> s.direction() != direction && s.doubt() > doubt);
        kept.removeIf(s -> s.direction() == direction && s.car() == car);
        kept.add(new Sighting(car, direction, doubt));
        if (latest(way).direction() == direction) {
            return false;
        }
        for (Sighting one : kept) {
            for (Sighting other : kept) {
                boolean isSame = one.direction() == direction && other.direction() == direction;
                if (isSame && one.car() != other.car() && one.doubt() * other.doubt() / 100 <= 20) {
                    become(new Version(way, latest(way).kind(), direction, -1, 0));
                    kept.clear();
                    return true;
                }
            }
        }
        return false;
    }

    int sightings(int way) {
        index(way, crossings.size());
        return sightings.get(way).size();
    }

    int dear(int way) {
        index(way, crossings.size());
        int dear = 0;
        for (Sighting sighting : sightings.get(way)) {
            if (sighting.direction() != latest(way).direction()) {
                dear = Math.max(dear, (100 - sighting.doubt()) * (latest(way).kind() + 1));
            }
        }
        return dear;
    }

    int target(int car) {
        index(car, 3);
        int target = -1;
        for (int way = crossings.size() - 1; way >= 0; way--) {
            if (worth(car, way) > 0 && (target == -1 || worth(car, way) >= worth(car, target))) {
                target = way;
            }
        }
        return target;
    }

    int send(int car) {
        int target = target(car);
        state(target != -1);
        boolean isToBegin = distance(car, begin(target)) <= distance(car, end(target));
        int[] crossing = isToBegin ? begin(target) : end(target);
        return drive(car, crossing[0], crossing[1]);
    }

    int carAt(int car) {
        index(car, 3);
        return 100 * cars[car][0] + cars[car][1];
    }

    int[] begin(int way) {
        return crossings.get(way).get(0);
    }

    int[] end(int way) {
        return crossings.get(way).get(crossings.get(way).size() - 1);
    }

    Version latest(int way) {
        List<Version> versions = versionsOf(way);
        return versions.get(versions.size() - 1);
    }

    private int worth(int car, int way) {
        return dear(way) * 100 / (1 + Math.min(distance(car, begin(way)), distance(car, end(way))));
    }

    private int distance(int car, int[] crossing) {
        return Math.abs(cars[car][0] - crossing[0]) + Math.abs(cars[car][1] - crossing[1]);
    }

    private List<Version> versionsOf(int way) {
        List<Version> versions = new ArrayList<>();
        for (Version version : history) {
            if (version.way() == way) {
                versions.add(version);
            }
        }
        return versions;
    }

    private void become(Version wanted) {
        history.add(new Version(wanted.way(), wanted.kind(), wanted.direction(), wanted.maker(), clock() + 1));
        waiting.remove(wanted.way());
    }

    private int trustBy(int editor, int added) {
        trusts[editor] += added;
        trusts[editor] = trusts[editor] < 0 ? 0 : trusts[editor] > 100 ? 100 : trusts[editor];
        return trusts[editor];
    }

    private List<Version> shown(int zoom, int x, int y, int stamp) {
        List<Version> shown = new ArrayList<>();
        for (int way = 0; way < crossings.size(); way++) {
            Version then = null;
            for (Version version : versionsOf(way)) {
                then = version.stamp() <= stamp ? version : then;
            }
            if (then != null && isShown(then, zoom) && isPartIn(way, zoom, x, y)) {
                shown.add(then);
            }
        }
        return shown;
    }

    private static int picture(List<Version> shown) {
        int picture = 17;
        for (Version version : shown) {
            picture = picture * 31 + 16 * version.way() + 4 * version.kind() + version.direction();
        }
        return picture;
    }

    private static boolean isShown(Version version, int zoom) {
        return switch (zoom) {
            case 0 -> version.kind() == 3;
            case 1 -> version.kind() == 3 || version.kind() == 2;
            case 2 -> version.kind() != 0;
            default -> true;
        };
    }

    /** Borders of tiles are at crossings, so a way that has a part in a tile has a crossing in it. */
    private boolean isPartIn(int way, int zoom, int x, int y) {
        int side = 16 / (1 << zoom);
        for (int[] crossing : crossings.get(way)) {
            boolean isAcross = crossing[0] >= x * side && crossing[0] <= (x + 1) * side;
            if (isAcross && crossing[1] >= y * side && crossing[1] <= (y + 1) * side) {
                return true;
            }
        }
        return false;
    }

    private static String key(int zoom, int x, int y) {
        return zoom + "/" + x + "/" + y;
    }

    private static void tile(int zoom, int x, int y) {
        index(zoom, 5);
        index(x, 1 << zoom);
        index(y, 1 << zoom);
    }

    private static void index(int index, int count) {
        if (index < 0 || index >= count) {
            throw new IndexOutOfBoundsException();
        }
    }

    private static void argument(boolean isInRange) {
        if (!isInRange) {
            throw new IllegalArgumentException();
        }
    }

    private static void state(boolean isPossible) {
        if (!isPossible) {
            throw new IllegalStateException();
        }
    }
}
