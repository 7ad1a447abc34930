import java.util.ArrayList;
import java.util.Arrays;

/**
 * A map that editors, cars and a tile server share. What each call promises stands in the document,
 * ../shared/DOC.md; the comments here only say why something is done the way it is.
 */
public final class SignTiles {
    public static final int NONE = -1;
    public static final int LANE = 0, STREET = 1, ROAD = 2, HIGHWAY = 3;
    public static final int BOTH = 0, ALONG = 1, AGAINST = 2;

    private static final int MAP_SIDE = 16;
    private static final int MAX_WAYS = 40;
    private static final int MAX_GUARD = 100;
    private static final int EDITORS = 6;
    private static final int FIRST_TRUST = 50;
    private static final int MAX_TRUST = 100;
    private static final int TRUST_BY_CONFIRMING = 5;
    private static final int TRUST_BY_REFUSING = -5;
    private static final int TRUST_BY_REVERTING = -10;
    private static final int CARS = 3;
    private static final int DIRECTIONS = 3;
    private static final int MAX_DOUBT = 99;
    private static final int MAX_JOINT_DOUBT = 20;
    private static final int MAX_ZOOM = 4;
    private static final int ALL_TILES = 341;

    /** Where the tiles of each zoom begin in the row of all tiles. */
    private static final int[] FIRST_TILES = {0, 1, 5, 21, 85};

    /** A call makes one change at most, so none is refused within the 512 calls that the document promises. */
    private static final int MAX_CHANGES = 512;

    private final ArrayList<Way> ways = new ArrayList<Way>();
    private final int[] trusts = new int[EDITORS];
    private final int[] carX = new int[CARS];
    private final int[] carY = new int[CARS];

    /** Null where a tile was not drawn: most of them never are, and so cost nothing. */
    private final Tile[] tiles = new Tile[ALL_TILES];

    private int changes = 0;

    public SignTiles() {
        Arrays.fill(trusts, FIRST_TRUST);
    }

    // ---- ways and editors

    public int addWay(int editor, int x, int y, int length, int kind)
            throws IndexOutOfBoundsException, IllegalArgumentException, IllegalStateException {
        requireEditor(editor);
        requireCrossing(x, y);
        boolean isLength = length != 0 && isIn(length, -MAP_SIDE, MAP_SIDE);
        // A length out of its range leads nowhere, and must not be added: the sum might wrap around.
        int endX = isLength && length > 0 ? x + length : x;
        int endY = isLength && length < 0 ? y - length : y;
        requireCrossing(endX, endY);
        if (!isLength || !isKind(kind)) {
            throw new IllegalArgumentException("length or kind is out of range");
        }
        if (ways.size() >= MAX_WAYS || isFull()) {
            throw new IllegalStateException("there is no room for a way");
        }
        ways.add(new Way(x, y, endX, endY, newVersion(new Change(kind, BOTH, editor), null)));
        return ways.size() - 1;
    }

    public boolean edit(int editor, int way, int kind, int direction)
            throws IndexOutOfBoundsException, IllegalArgumentException, IllegalStateException {
        requireEditor(editor);
        Way edited = wayAt(way);
        if (!isKind(kind) || !isDirection(direction)) {
            throw new IllegalArgumentException("kind or direction is out of range");
        }
        if ((edited.kind() == kind && edited.direction() == direction) || isFull()) {
            throw new IllegalStateException("there is nothing to change");
        }
        Change change = new Change(kind, direction, editor);
        if (trusts[editor] < edited.guard) {
            edited.waiting = change;
            return false;
        }
        addVersion(edited, change);
        return true;
    }

    public int judge(int editor, int way, boolean isRefused)
            throws IndexOutOfBoundsException, IllegalStateException {
        requireEditor(editor);
        Way judged = wayAt(way);
        Change change = judged.waiting;
        if (change == null || change.editor == editor || trusts[editor] < judged.guard || isFull()) {
            throw new IllegalStateException("this editor has nothing to judge here");
        }
        if (isRefused) {
            judged.waiting = null;
            return addTrust(change.editor, TRUST_BY_REFUSING);
        }
        addVersion(judged, change);
        return addTrust(change.editor, TRUST_BY_CONFIRMING);
    }

    public int revert(int editor, int way) throws IndexOutOfBoundsException, IllegalStateException {
        requireEditor(editor);
        Way reverted = wayAt(way);
        Version latest = reverted.latest;
        if (latest.ahead == null || isFull()) {
            throw new IllegalStateException("there is nothing to revert");
        }
        int author = latest.change.editor;
        // An editor who made it has not more trust than themselves, so they are refused here, too.
        if (author == NONE || trusts[editor] <= trusts[author]) {
            throw new IllegalStateException("this editor can't revert it");
        }
        Change earlier = latest.ahead.change;
        addVersion(reverted, new Change(earlier.kind, earlier.direction, editor));
        return addTrust(author, TRUST_BY_REVERTING);
    }

    public int guard(int way, int guard) throws IndexOutOfBoundsException, IllegalArgumentException {
        Way guarded = wayAt(way);
        if (!isIn(guard, 0, MAX_GUARD)) {
            throw new IllegalArgumentException("guard is out of range");
        }
        int before = guarded.guard;
        guarded.guard = guard;
        return before;
    }

    public int trust(int editor) throws IndexOutOfBoundsException {
        requireEditor(editor);
        return trusts[editor];
    }

    public int ways() {
        return ways.size();
    }

    public int versions(int way) throws IndexOutOfBoundsException {
        return wayAt(way).versionCount();
    }

    public int version(int way, int version) throws IndexOutOfBoundsException {
        return versionAt(wayAt(way), version).change.coded();
    }

    public int stampOf(int way, int version) throws IndexOutOfBoundsException {
        return versionAt(wayAt(way), version).stamp;
    }

    public int waiting(int way) throws IndexOutOfBoundsException {
        Change change = wayAt(way).waiting;
        return change == null ? NONE : change.coded();
    }

    public int clock() {
        return changes;
    }

    // ---- tiles

    public int draw(int zoom, int x, int y) throws IndexOutOfBoundsException {
        int index = tileIndex(zoom, x, y);
        Tile tile = tiles[index];
        if (tile == null) {
            tile = new Tile(zoom, x, y);
            tiles[index] = tile;
        }
        keepPicture(tile);
        return countWaysIn(tile);
    }

    public int picture(int zoom, int x, int y) throws IndexOutOfBoundsException, IllegalStateException {
        return drawnTile(zoom, x, y).picture;
    }

    public int pictureAnew(int zoom, int x, int y) throws IndexOutOfBoundsException, IllegalStateException {
        Tile tile = drawnTile(zoom, x, y);
        return pictureAt(tile, tile.stamp);
    }

    public int tileStamp(int zoom, int x, int y) throws IndexOutOfBoundsException {
        Tile tile = tiles[tileIndex(zoom, x, y)];
        return tile == null ? NONE : tile.stamp;
    }

    public boolean isStale(int zoom, int x, int y) throws IndexOutOfBoundsException {
        return isOutdated(tiles[tileIndex(zoom, x, y)]);
    }

    public int staleTiles(int zoom) throws IndexOutOfBoundsException {
        requireZoom(zoom);
        int first = FIRST_TILES[zoom];
        int end = first + tilesAcross(zoom) * tilesAcross(zoom);
        int count = 0;
        for (int i = first; i < end; i++) {
            if (isOutdated(tiles[i])) {
                count++;
            }
        }
        return count;
    }

    public int refresh() {
        int count = 0;
        for (int i = 0; i < tiles.length; i++) {
            Tile tile = tiles[i];
            if (tile != null && isOutdated(tile)) {
                keepPicture(tile);
                count++;
            }
        }
        return count;
    }

    // ---- cars and signs

    public int drive(int car, int x, int y) throws IndexOutOfBoundsException {
        requireCar(car);
        requireCrossing(x, y);
        int distance = distance(carX[car], carY[car], x, y);
        carX[car] = x;
        carY[car] = y;
        return distance;
    }

    public boolean see(int car, int way, int direction, int doubt)
            throws IndexOutOfBoundsException, IllegalArgumentException, IllegalStateException {
        requireCar(car);
        Way seen = wayAt(way);
        if (!isDirection(direction) || !isIn(doubt, 0, MAX_DOUBT)) {
            throw new IllegalArgumentException("direction or doubt is out of range");
        }
        if (seen.distanceFrom(carX[car], carY[car]) != 0 || isFull()) {
            throw new IllegalStateException("the car sees no sign of this way");
        }
        seen.keepSighting(car, direction, doubt);
        if (seen.direction() == direction || !seen.hasAgreementOn(direction)) {
            return false;
        }
        addVersion(seen, new Change(seen.kind(), direction, NONE));
        seen.forgetSightings();
        return true;
    }

    public int sightings(int way) throws IndexOutOfBoundsException {
        return wayAt(way).countSightings();
    }

    public int dear(int way) throws IndexOutOfBoundsException {
        return wayAt(way).dearness();
    }

    public int target(int car) throws IndexOutOfBoundsException {
        requireCar(car);
        return targetFrom(carX[car], carY[car]);
    }

    public int send(int car) throws IndexOutOfBoundsException, IllegalStateException {
        requireCar(car);
        int target = targetFrom(carX[car], carY[car]);
        if (target == NONE) {
            throw new IllegalStateException("the car has no target");
        }
        Way way = wayAt(target);
        int toBegin = way.distanceFromBegin(carX[car], carY[car]);
        int toEnd = way.distanceFromEnd(carX[car], carY[car]);
        boolean isToEnd = toEnd < toBegin;
        carX[car] = isToEnd ? way.endX : way.beginX;
        carY[car] = isToEnd ? way.endY : way.beginY;
        return isToEnd ? toEnd : toBegin;
    }

    public int carAt(int car) throws IndexOutOfBoundsException {
        requireCar(car);
        return 100 * carX[car] + carY[car];
    }

    // ---- what the arguments may be

    private static boolean isIn(int value, int least, int most) {
        return value >= least && value <= most;
    }

    private static boolean isKind(int kind) {
        return isIn(kind, LANE, HIGHWAY);
    }

    private static boolean isDirection(int direction) {
        return isIn(direction, BOTH, AGAINST);
    }

    private static void requireEditor(int editor) {
        if (!isIn(editor, 0, EDITORS - 1)) {
            throw new IndexOutOfBoundsException("there is no such editor");
        }
    }

    private static void requireCrossing(int x, int y) {
        if (!isIn(x, 0, MAP_SIDE) || !isIn(y, 0, MAP_SIDE)) {
            throw new IndexOutOfBoundsException("there is no such crossing");
        }
    }

    private static void requireCar(int car) {
        if (!isIn(car, 0, CARS - 1)) {
            throw new IndexOutOfBoundsException("there is no such car");
        }
    }

    private static void requireZoom(int zoom) {
        if (!isIn(zoom, 0, MAX_ZOOM)) {
            throw new IndexOutOfBoundsException("there is no such zoom");
        }
    }

    private Way wayAt(int way) {
        if (way < 0 || way >= ways.size()) {
            throw new IndexOutOfBoundsException("there is no such way");
        }
        return ways.get(way);
    }

    private static Version versionAt(Way way, int number) {
        for (Version version = way.latest; version != null; version = version.ahead) {
            if (version.number == number) {
                return version;
            }
        }
        throw new IndexOutOfBoundsException("there is no such version");
    }

    // ---- versions and trust

    private boolean isFull() {
        return changes >= MAX_CHANGES;
    }

    private Version newVersion(Change change, Version ahead) {
        changes++;
        return new Version(change, changes, ahead);
    }

    private void addVersion(Way way, Change change) {
        way.latest = newVersion(change, way.latest);
        way.waiting = null;
    }

    private int addTrust(int editor, int added) {
        trusts[editor] = Math.max(0, Math.min(MAX_TRUST, trusts[editor] + added));
        return trusts[editor];
    }

    // ---- pictures

    private static int tilesAcross(int zoom) {
        return 1 << zoom;
    }

    private static int tileIndex(int zoom, int x, int y) {
        requireZoom(zoom);
        int across = tilesAcross(zoom);
        if (!isIn(x, 0, across - 1) || !isIn(y, 0, across - 1)) {
            throw new IndexOutOfBoundsException("there is no such tile");
        }
        return FIRST_TILES[zoom] + y * across + x;
    }

    private Tile drawnTile(int zoom, int x, int y) {
        Tile tile = tiles[tileIndex(zoom, x, y)];
        if (tile == null) {
            throw new IllegalStateException("the tile was not drawn");
        }
        return tile;
    }

    private void keepPicture(Tile tile) {
        tile.stamp = changes;
        tile.picture = pictureAt(tile, changes);
    }

    private int pictureAt(Tile tile, int stamp) {
        int picture = 17;
        for (int i = 0; i < ways.size(); i++) {
            Change shown = ways.get(i).shownIn(tile, stamp);
            if (shown != null) {
                picture = 31 * picture + 16 * i + 4 * shown.kind + shown.direction;
            }
        }
        return picture;
    }

    private int countWaysIn(Tile tile) {
        int count = 0;
        for (int i = 0; i < ways.size(); i++) {
            if (ways.get(i).shownIn(tile, tile.stamp) != null) {
                count++;
            }
        }
        return count;
    }

    private boolean isOutdated(Tile tile) {
        if (tile == null) {
            return false;
        }
        for (int i = 0; i < ways.size(); i++) {
            if (ways.get(i).outdates(tile)) {
                return true;
            }
        }
        return false;
    }

    // ---- targets

    private static int distance(int fromX, int fromY, int toX, int toY) {
        return Math.abs(fromX - toX) + Math.abs(fromY - toY);
    }

    private int targetFrom(int x, int y) {
        int target = NONE;
        int most = 0;
        for (int i = 0; i < ways.size(); i++) {
            Way way = ways.get(i);
            int worth = way.dearness() * 100 / (1 + way.distanceFrom(x, y));
            if (worth > most) {
                most = worth;
                target = i;
            }
        }
        return target;
    }

    /** What a version makes of a way, or would make of it. */
    private static final class Change {
        final int kind;
        final int direction;
        final int editor;

        Change(int kind, int direction, int editor) {
            this.kind = kind;
            this.direction = direction;
            this.editor = editor;
        }

        int coded() {
            // NONE and 1 is the 0 that stands for no editor.
            return 100 * kind + 10 * direction + editor + 1;
        }
    }

    private static final class Version {
        final Change change;
        final int stamp;
        final int number;

        /** Null for the first one. */
        final Version ahead;

        Version(Change change, int stamp, Version ahead) {
            this.change = change;
            this.stamp = stamp;
            this.number = ahead == null ? 0 : ahead.number + 1;
            this.ahead = ahead;
        }
    }

    private static final class Tile {
        final int zoom;
        final int left;
        final int right;
        final int top;
        final int bottom;
        int stamp = 0;
        int picture = 0;

        Tile(int zoom, int x, int y) {
            int side = MAP_SIDE >> zoom;
            this.zoom = zoom;
            this.left = x * side;
            this.right = left + side;
            this.top = y * side;
            this.bottom = top + side;
        }

        /** Asked of what was ahead of a first version, too: there is none, and so nothing to show. */
        boolean shows(Version version) {
            return version != null && version.change.kind >= HIGHWAY - zoom;
        }
    }

    private static final class Way {
        final int beginX;
        final int beginY;
        final int endX;
        final int endY;
        int guard = 0;
        Version latest;

        /** Null if no change waits. */
        Change waiting = null;

        /**
         * A car keeps one sighting a direction at most, so each has a place of its own: its doubt stands there, or
         * NONE. No answer tells in which order they were kept.
         */
        final int[] doubts = new int[CARS * DIRECTIONS];

        Way(int beginX, int beginY, int endX, int endY, Version first) {
            this.beginX = beginX;
            this.beginY = beginY;
            this.endX = endX;
            this.endY = endY;
            this.latest = first;
            Arrays.fill(doubts, NONE);
        }

        int kind() {
            return latest.change.kind;
        }

        int direction() {
            return latest.change.direction;
        }

        int versionCount() {
            return latest.number + 1;
        }

        int distanceFromBegin(int x, int y) {
            return distance(x, y, beginX, beginY);
        }

        int distanceFromEnd(int x, int y) {
            return distance(x, y, endX, endY);
        }

        int distanceFrom(int x, int y) {
            return Math.min(distanceFromBegin(x, y), distanceFromEnd(x, y));
        }

        boolean hasPartIn(Tile tile) {
            return beginX <= tile.right && endX >= tile.left && beginY <= tile.bottom && endY >= tile.top;
        }

        /** What the tile's picture of this stamp shows of the way; null if nothing. */
        Change shownIn(Tile tile, int stamp) {
            if (!hasPartIn(tile)) {
                return null;
            }
            Version version = latest;
            while (version != null && version.stamp > stamp) {
                version = version.ahead;
            }
            return version != null && tile.shows(version) ? version.change : null;
        }

        boolean outdates(Tile tile) {
            if (!hasPartIn(tile)) {
                return false;
            }
            for (Version version = latest; version != null && version.stamp > tile.stamp; version = version.ahead) {
                if (tile.shows(version) || tile.shows(version.ahead)) {
                    return true;
                }
            }
            return false;
        }

        void keepSighting(int car, int direction, int doubt) {
            for (int i = 0; i < doubts.length; i++) {
                if (i % DIRECTIONS != direction && doubts[i] > doubt) {
                    doubts[i] = NONE;
                }
            }
            doubts[car * DIRECTIONS + direction] = doubt;
        }

        boolean hasAgreementOn(int direction) {
            for (int i = direction; i < doubts.length; i += DIRECTIONS) {
                for (int j = i + DIRECTIONS; j < doubts.length; j += DIRECTIONS) {
                    if (doubts[i] != NONE && doubts[j] != NONE && doubts[i] * doubts[j] / 100 <= MAX_JOINT_DOUBT) {
                        return true;
                    }
                }
            }
            return false;
        }

        void forgetSightings() {
            Arrays.fill(doubts, NONE);
        }

        int countSightings() {
            int count = 0;
            for (int i = 0; i < doubts.length; i++) {
                if (doubts[i] != NONE) {
                    count++;
                }
            }
            return count;
        }

        int dearness() {
            int least = NONE;
            for (int i = 0; i < doubts.length; i++) {
                boolean isOther = i % DIRECTIONS != direction();
                if (isOther && doubts[i] != NONE && (least == NONE || doubts[i] < least)) {
                    least = doubts[i];
                }
            }
            return least == NONE ? 0 : (100 - least) * (kind() + 1);
        }
    }
}
