import java.lang.reflect.Array;
import java.lang.reflect.Field;
import java.lang.reflect.Modifier;
import java.util.List;

/** All that a map is: what can be asked of it, in few enough calls that it stays within its 512, and what it holds. */
final class View {
    private static final int[][] TILES = {
        {0, 0, 0}, {1, 0, 0}, {1, 1, 1}, {2, 0, 0}, {2, 3, 3}, {3, 0, 0}, {3, 1, 0}, {4, 0, 0}, {4, 3, 2}
    };

    private View() {
    }

    /** Asks for the guards last, as that sets them; what the map holds is looked at ahead of all that. */
    static String of(SignTiles map) {
        StringBuilder view = new StringBuilder();
        addHeld(view, map);
        view.append(", clock ").append(map.clock()).append(", ways ").append(map.ways());
        for (int editor = 0; editor < 6; editor++) {
            view.append(", trust ").append(map.trust(editor));
        }
        for (int way = 0; way < map.ways(); way++) {
            addWay(view, map, way);
        }
        for (int car = 0; car < 3; car++) {
            view.append(", car ").append(map.carAt(car)).append(" to ").append(map.target(car));
        }
        for (int zoom = 0; zoom < 5; zoom++) {
            view.append(", stale ").append(map.staleTiles(zoom));
        }
        for (int[] tile : TILES) {
            addTile(view, map, tile[0], tile[1], tile[2]);
        }
        for (int way = 0; way < map.ways(); way++) {
            view.append(", guard ").append(map.guard(way, 0));
        }
        return view.toString();
    }

    private static void addWay(StringBuilder view, SignTiles map, int way) {
        view.append(", way ").append(way).append(" waits ").append(map.waiting(way));
        view.append(" sightings ").append(map.sightings(way)).append(" dear ").append(map.dear(way));
        int versions = map.versions(way);
        for (int version = 0; version < versions; version++) {
            view.append(" version ").append(map.version(way, version)).append(" at ").append(map.stampOf(way, version));
        }
    }

    private static void addTile(StringBuilder view, SignTiles map, int zoom, int x, int y) {
        int stamp = map.tileStamp(zoom, x, y);
        view.append(", tile ").append(stamp);
        if (stamp != SignTiles.NONE) {
            view.append(' ').append(map.picture(zoom, x, y)).append(' ').append(map.pictureAnew(zoom, x, y));
            view.append(' ').append(map.isStale(zoom, x, y));
        }
    }

    /** What no call asks for, such as each doubt, is held in fields all the same; none of them leads back. */
    private static void addHeld(StringBuilder view, Object held) {
        if (held == null) {
            view.append('.');
        } else if (held instanceof Number || held instanceof Boolean) {
            view.append(held).append(' ');
        } else if (held instanceof List<?> list) {
            for (Object element : list) {
                addHeld(view, element);
            }
        } else if (held.getClass().isArray()) {
            for (int i = 0; i < Array.getLength(held); i++) {
                addHeld(view, Array.get(held, i));
            }
        } else {
            addFields(view, held);
        }
    }

    private static void addFields(StringBuilder view, Object held) {
        view.append('{');
        for (Field field : held.getClass().getDeclaredFields()) {
            if (!Modifier.isStatic(field.getModifiers())) {
                field.setAccessible(true);
                addHeld(view, valueOf(field, held));
            }
        }
        view.append('}');
    }

    private static Object valueOf(Field field, Object held) {
        try {
            return field.get(held);
        } catch (IllegalAccessException e) {
            throw new IllegalStateException(e);
        }
    }
}
