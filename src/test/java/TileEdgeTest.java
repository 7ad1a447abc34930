import java.math.BigInteger;
import java.util.function.Supplier;

/** The edges that the document names, sentence by sentence: promises 14 to 20. */
public final class TileEdgeTest {
    private static final int EMPTY = 17;
    private static final String SHOWS = "The zoom 0 shows HIGHWAYs, 1 also ROADs, 2 also STREETs, 3 and 4 all ways.";
    private static final String BORDERS = "what lies on a border is in both tiles; one point of a way is a part of it";

    /** The least kind that each zoom shows. */
    private static final int[] SHOWN = {
        SignTiles.HIGHWAY, SignTiles.ROAD, SignTiles.STREET, SignTiles.LANE, SignTiles.LANE
    };

    private TileEdgeTest() {
    }

    public static void main(String[] args) {
        promises14To18HaveRanges();
        promise14ShowsKindsByZoom();
        promise14IncludesBorders();
        promise14IncludesCorners();
        promise14ReachesTheEdgesOfTheMap();
        promise14DrawsNoneOneAndForty();
        promise14DrawsByRisingNumbers();
        promise15NeedsADrawing();
        promise15KeepsTheLastDrawing();
        promise15WrapsAround();
        promise16NeedsADrawing();
        promise16DrawsAsItWasAtItsStamp();
        promise17TellsStamps();
        promise17KeepsTilesApart();
        promise18NeedsADrawing();
        promise18ComparesStamps();
        promise18ShowsKindsByZoom();
        promise18IncludesBorders();
        promise19HasARange();
        promise19CountsNoneOneAndAll();
        promise20DrawsNoneOneAndAll();
        promise20LeavesOthers();
        Check.namedAll(14, 20);
        Check.close("TileEdgeTest");
    }

    /** A call that is about a tile. */
    private interface TileCall {
        void on(SignTiles map, int zoom, int x, int y);
    }

    private static int with(int picture, int way, int kind, int direction) {
        return 31 * picture + 16 * way + 4 * kind + direction;
    }

    private static SignTiles one(int x, int y, int length, int kind) {
        SignTiles map = new SignTiles();
        map.addWay(0, x, y, length, kind);
        return map;
    }

    /** Eight highways right through the map, so that each tile of each zoom has a part of one. */
    private static SignTiles highways() {
        SignTiles map = new SignTiles();
        for (int i = 0; i < 8; i++) {
            map.addWay(0, 0, 1 + 2 * i, 16, SignTiles.HIGHWAY);
        }
        return map;
    }

    private static void drawZoom(SignTiles map, int zoom) {
        for (int y = 0; y < 1 << zoom; y++) {
            for (int x = 0; x < 1 << zoom; x++) {
                map.draw(zoom, x, y);
            }
        }
    }

    private static SignTiles allDrawn() {
        SignTiles map = highways();
        for (int zoom = 0; zoom < 5; zoom++) {
            drawZoom(map, zoom);
        }
        return map;
    }

    private static void promises14To18HaveRanges() {
        hasRanges(14, SignTiles::draw);
        hasRanges(15, SignTiles::picture);
        hasRanges(16, SignTiles::pictureAnew);
        hasRanges(17, SignTiles::tileStamp);
        hasRanges(18, SignTiles::isStale);
    }

    private static void hasRanges(int promise, TileCall call) {
        Check.sentence(promise, "if there is no such zoom or tile");
        Check.indexRange(TileEdgeTest::allDrawn, 0, 4, (map, zoom) -> call.on(map, zoom, 0, 0));
        Check.sentence(promise, "In the zoom z there are 2 to the power z tiles in each direction");
        for (int zoom = 0; zoom < 5; zoom++) {
            int chosen = zoom;
            int last = (1 << zoom) - 1;
            Check.indexRange(TileEdgeTest::allDrawn, 0, last, (map, x) -> call.on(map, chosen, x, 0));
            Check.indexRange(TileEdgeTest::allDrawn, 0, last, (map, x) -> call.on(map, chosen, x, last));
            Check.indexRange(TileEdgeTest::allDrawn, 0, last, (map, y) -> call.on(map, chosen, 0, y));
            Check.indexRange(TileEdgeTest::allDrawn, 0, last, (map, y) -> call.on(map, chosen, last, y));
        }
        Check.sentence(promise, "the one that is listed first is thrown");
        Check.noIndex("no zoom, no tile", Maps::rich, map -> call.on(map, 5, 32, 32));
        Check.noIndex("no x, not drawn", Maps::rich, map -> call.on(map, 2, 4, 0));
        Check.noIndex("no y, not drawn", Maps::rich, map -> call.on(map, 2, 0, -1));
        Check.noIndex("no zoom, not drawn", Maps::rich, map -> call.on(map, -1, 0, 0));
    }

    private static void promise14ShowsKindsByZoom() {
        Check.sentence(14, SHOWS);
        for (int zoom = 0; zoom < 5; zoom++) {
            for (int kind = SignTiles.LANE; kind <= SignTiles.HIGHWAY; kind++) {
                SignTiles map = one(0, 0, 1, kind);
                boolean isShown = kind >= SHOWN[zoom];
                String what = "of a kind " + kind + " in zoom " + zoom;
                Check.same("draw " + what, map.draw(zoom, 0, 0), isShown ? 1 : 0);
                Check.same("picture " + what, map.picture(zoom, 0, 0), isShown ? with(EMPTY, 0, kind, 0) : EMPTY);
            }
        }
    }

    private static void promise14IncludesBorders() {
        Check.sentence(14, BORDERS);
        for (int zoom = 1; zoom < 5; zoom++) {
            int border = 16 >> zoom;
            isInTiles(zoom, border - 1, 1, true, true);
            isInTiles(zoom, border, 1, true, true);
            isInTiles(zoom, 0, 16, true, true);
            if (border > 1) {
                isInTiles(zoom, border - 2, 1, true, false);
                isInTiles(zoom, border + 1, 1, false, true);
            }
            liesIn(zoom, border - 1, true, false);
            liesIn(zoom, border, true, true);
            liesIn(zoom, border + 1, false, true);
        }
        Check.same("draw of a tile beside a way's end", one(1, 0, 1, SignTiles.HIGHWAY).draw(4, 3, 0), 0);
        Check.same("draw of a tile beside a way's begin", one(2, 0, 1, SignTiles.HIGHWAY).draw(4, 0, 0), 0);
    }

    /** A way along the first row or column, and the two tiles ahead of the first border and behind it. */
    private static void isInTiles(int zoom, int begin, int length, boolean isInFirst, boolean isInSecond) {
        String what = "draw in zoom " + zoom + " of a way from " + begin + " by " + length;
        SignTiles right = one(begin, 0, length, SignTiles.HIGHWAY);
        Check.same(what + " to the right, first", right.draw(zoom, 0, 0), isInFirst ? 1 : 0);
        Check.same(what + " to the right, second", right.draw(zoom, 1, 0), isInSecond ? 1 : 0);
        SignTiles down = one(0, begin, -length, SignTiles.HIGHWAY);
        Check.same(what + " downwards, first", down.draw(zoom, 0, 0), isInFirst ? 1 : 0);
        Check.same(what + " downwards, second", down.draw(zoom, 0, 1), isInSecond ? 1 : 0);
    }

    /** A way right through the map at this row or column, and the tiles ahead of the first border and behind it. */
    private static void liesIn(int zoom, int at, boolean isInFirst, boolean isInSecond) {
        String what = "draw in zoom " + zoom + " of a way at " + at;
        SignTiles right = one(0, at, 16, SignTiles.HIGHWAY);
        Check.same(what + " to the right, first", right.draw(zoom, 1, 0), isInFirst ? 1 : 0);
        Check.same(what + " to the right, second", right.draw(zoom, 1, 1), isInSecond ? 1 : 0);
        SignTiles down = one(at, 0, -16, SignTiles.HIGHWAY);
        Check.same(what + " downwards, first", down.draw(zoom, 0, 1), isInFirst ? 1 : 0);
        Check.same(what + " downwards, second", down.draw(zoom, 1, 1), isInSecond ? 1 : 0);
    }

    private static void promise14IncludesCorners() {
        Check.sentence(14, BORDERS);
        for (int zoom = 1; zoom < 5; zoom++) {
            int border = 16 >> zoom;
            SignTiles[] ends = {
                one(border - 1, border, 1, SignTiles.HIGHWAY), one(border, border, 1, SignTiles.HIGHWAY),
                one(border, border - 1, -1, SignTiles.HIGHWAY), one(border, border, -1, SignTiles.HIGHWAY)
            };
            for (SignTiles map : ends) {
                for (int tile = 0; tile < 4; tile++) {
                    Check.same("draw at a corner of zoom " + zoom, map.draw(zoom, tile % 2, tile / 2), 1);
                }
            }
        }
    }

    private static void promise14ReachesTheEdgesOfTheMap() {
        Check.sentence(14, "parts of ways in a square whose side is 16 divided by that, its borders included");
        for (int zoom = 0; zoom < 5; zoom++) {
            int last = (1 << zoom) - 1;
            String what = "draw in zoom " + zoom;
            Check.same(what + " at the right edge", one(16, 0, -1, SignTiles.HIGHWAY).draw(zoom, last, 0), 1);
            Check.same(what + " at the lower edge", one(0, 16, 1, SignTiles.HIGHWAY).draw(zoom, 0, last), 1);
            Check.same(what + " at the last crossing", one(15, 16, 1, SignTiles.HIGHWAY).draw(zoom, last, last), 1);
            Check.same(what + " at the first crossing", one(0, 0, -1, SignTiles.HIGHWAY).draw(zoom, 0, 0), 1);
            Check.same(what + " at x and y the other way about",
                    one(16, 0, -1, SignTiles.HIGHWAY).draw(zoom, 0, last), zoom == 0 ? 1 : 0);
        }
    }

    private static void promise14DrawsNoneOneAndForty() {
        Check.sentence(14, "Returns how many ways are in its picture.");
        SignTiles map = new SignTiles();
        for (int count = 0; count <= 40; count++) {
            Check.same("draw of " + count, map.draw(2, 0, 0), count);
            Check.same("draw of " + count + " elsewhere", map.draw(2, 1, 0), 0);
            if (count < 40) {
                map.addWay(0, 0, 0, 1, SignTiles.STREET);
            }
        }
        Check.sentence(14, "with the clock as its stamp");
        Check.same("tileStamp after forty ways", map.tileStamp(2, 0, 0), 40);
    }

    private static void promise14DrawsByRisingNumbers() {
        Check.sentence(14, "and of which a part is in the tile, by rising numbers");
        SignTiles map = new SignTiles();
        map.addWay(0, 8, 8, 1, SignTiles.HIGHWAY);
        map.addWay(0, 0, 0, -1, SignTiles.ROAD);
        map.addWay(0, 0, 0, 1, SignTiles.HIGHWAY);
        map.edit(0, 1, SignTiles.HIGHWAY, SignTiles.AGAINST);
        Check.same("draw", map.draw(2, 0, 0), 2);
        Check.same("picture", map.picture(2, 0, 0), with(with(EMPTY, 1, 3, 2), 2, 3, 0));
        Check.same("picture in numbers", map.picture(2, 0, 0), 31 * (31 * 17 + 16 + 12 + 2) + 32 + 12);
    }

    private static void promise15NeedsADrawing() {
        Check.sentence(15, "if it was not drawn");
        Supplier<SignTiles> drawn = TileEdgeTest::drawnEmpty;
        Check.noState("picture in a new object", SignTiles::new, map -> map.picture(0, 0, 0));
        Check.noState("picture of a neighbour", drawn, map -> map.picture(1, 0, 1));
        Check.noState("picture of another zoom", drawn, map -> map.picture(0, 0, 0));
        Check.noState("picture after a refresh", TileEdgeTest::refreshed, map -> map.picture(1, 0, 1));
        Check.accepted("picture of what was drawn", drawn, map -> map.picture(1, 1, 0));
        Check.changesNothing("picture of a stale tile", Maps::rich, map -> map.picture(4, 0, 0));
        Check.same("picture of a tile without ways", drawn.get().picture(1, 1, 0), EMPTY);
    }

    /** The tile (1, 0) of zoom 1 was drawn when there was no way yet. */
    private static SignTiles drawnEmpty() {
        SignTiles map = new SignTiles();
        map.draw(1, 1, 0);
        return map;
    }

    private static SignTiles refreshed() {
        SignTiles map = drawnEmpty();
        map.addWay(0, 0, 8, 16, SignTiles.HIGHWAY);
        map.refresh();
        return map;
    }

    private static void promise15KeepsTheLastDrawing() {
        Check.sentence(15, "Returns the picture of a tile, as it was drawn last.");
        SignTiles map = drawnEmpty();
        map.addWay(0, 8, 0, 1, SignTiles.ROAD);
        Check.same("picture when it is stale", map.picture(1, 1, 0), EMPTY);
        map.draw(1, 1, 0);
        Check.same("picture drawn again", map.picture(1, 1, 0), with(EMPTY, 0, 2, 0));
        map.edit(0, 0, SignTiles.LANE, SignTiles.BOTH);
        Check.same("picture of what is not shown any more", map.picture(1, 1, 0), with(EMPTY, 0, 2, 0));
        map.refresh();
        Check.same("picture refreshed", map.picture(1, 1, 0), EMPTY);
    }

    private static void promise15WrapsAround() {
        Check.sentence(15, "4 times the kind, and the direction; as an int");
        SignTiles map = new SignTiles();
        BigInteger exact = BigInteger.valueOf(EMPTY);
        boolean hasBeenNegative = false;
        for (int way = 0; way < 40; way++) {
            map.addWay(0, 0, 0, 1, SignTiles.HIGHWAY);
            map.edit(0, way, SignTiles.HIGHWAY, SignTiles.AGAINST);
            map.draw(0, 0, 0);
            exact = exact.multiply(BigInteger.valueOf(31)).add(BigInteger.valueOf(16 * way + 14));
            Check.same("picture of " + (way + 1) + " ways", map.picture(0, 0, 0), exact.intValue());
            Check.same("pictureAnew of " + (way + 1) + " ways", map.pictureAnew(0, 0, 0), exact.intValue());
            hasBeenNegative = hasBeenNegative || map.picture(0, 0, 0) < 0;
        }
        Check.same("whether the number is too long for an int", exact.bitLength() > 32, true);
        Check.same("whether a picture was below 0", hasBeenNegative, true);
    }

    private static void promise16NeedsADrawing() {
        Check.sentence(16, "if it was not drawn");
        Supplier<SignTiles> drawn = TileEdgeTest::drawnEmpty;
        Check.noState("pictureAnew in a new object", SignTiles::new, map -> map.pictureAnew(0, 0, 0));
        Check.noState("pictureAnew of a neighbour", drawn, map -> map.pictureAnew(1, 0, 1));
        Check.noState("pictureAnew of another zoom", drawn, map -> map.pictureAnew(0, 0, 0));
        Check.noState("pictureAnew after a refresh", TileEdgeTest::refreshed, map -> map.pictureAnew(1, 0, 1));
        Check.accepted("pictureAnew of what was drawn", drawn, map -> map.pictureAnew(1, 1, 0));
        Check.changesNothing("pictureAnew of a stale tile", Maps::rich, map -> map.pictureAnew(4, 0, 0));
    }

    private static void promise16DrawsAsItWasAtItsStamp() {
        Check.sentence(16, "Returns the same, drawn anew from the ways as they were at its stamp.");
        SignTiles map = new SignTiles();
        map.draw(3, 0, 0);
        map.addWay(0, 0, 0, 1, SignTiles.LANE);
        Check.same("pictureAnew at a stamp of 0", map.pictureAnew(3, 0, 0), EMPTY);
        map.draw(3, 0, 0);
        Check.same("pictureAnew at a first version's stamp", map.pictureAnew(3, 0, 0), with(EMPTY, 0, 0, 0));
        map.edit(0, 0, SignTiles.STREET, SignTiles.ALONG);
        Check.same("pictureAnew ahead of the next stamp", map.pictureAnew(3, 0, 0), with(EMPTY, 0, 0, 0));
        map.draw(3, 0, 0);
        map.addWay(0, 0, 0, -1, SignTiles.HIGHWAY);
        map.edit(0, 0, SignTiles.ROAD, SignTiles.AGAINST);
        map.edit(0, 0, SignTiles.HIGHWAY, SignTiles.AGAINST);
        map.edit(0, 1, SignTiles.LANE, SignTiles.BOTH);
        Check.same("pictureAnew at a later version's stamp", map.pictureAnew(3, 0, 0), with(EMPTY, 0, 1, 1));
        Check.same("the same", map.picture(3, 0, 0), with(EMPTY, 0, 1, 1));
        Check.same("tileStamp after it", map.tileStamp(3, 0, 0), 2);
    }

    private static void promise17TellsStamps() {
        Check.sentence(17, "Returns the stamp; NONE if it was not drawn.");
        Check.same("tileStamp in a new object", new SignTiles().tileStamp(0, 0, 0), SignTiles.NONE);
        Check.same("tileStamp drawn without ways", drawnEmpty().tileStamp(1, 1, 0), 0);
        Check.same("tileStamp of a neighbour", drawnEmpty().tileStamp(1, 0, 0), SignTiles.NONE);
        Check.same("tileStamp refreshed", refreshed().tileStamp(1, 1, 0), 1);
        Check.same("tileStamp when others are refreshed", refreshed().tileStamp(1, 0, 0), SignTiles.NONE);
        Check.same("tileStamp of a stale tile", Maps.rich().tileStamp(4, 0, 0), 2);
        Check.changesNothing("tileStamp", Maps::rich, map -> map.tileStamp(4, 0, 0));
        Check.changesNothing("tileStamp of what was not drawn", Maps::rich, map -> map.tileStamp(4, 1, 0));
    }

    private static void promise17KeepsTilesApart() {
        Check.sentence(17, "Returns the stamp; NONE if it was not drawn.");
        for (int zoom = 0; zoom < 5; zoom++) {
            for (int x = 0; x < 1 << zoom; x++) {
                for (int y = 0; y < 1 << zoom; y++) {
                    SignTiles map = new SignTiles();
                    map.draw(zoom, x, y);
                    String what = "tiles drawn by draw of " + zoom + ", " + x + ", " + y;
                    Check.same(what, drawnTiles(map), zoom + ", " + x + ", " + y + "; ");
                }
            }
        }
    }

    private static String drawnTiles(SignTiles map) {
        StringBuilder drawn = new StringBuilder();
        for (int zoom = 0; zoom < 5; zoom++) {
            for (int x = 0; x < 1 << zoom; x++) {
                for (int y = 0; y < 1 << zoom; y++) {
                    if (map.tileStamp(zoom, x, y) != SignTiles.NONE) {
                        drawn.append(zoom).append(", ").append(x).append(", ").append(y).append("; ");
                    }
                }
            }
        }
        return drawn.toString();
    }

    private static void promise18NeedsADrawing() {
        Check.sentence(18, "Returns whether it is; false if it was not drawn.");
        SignTiles map = new SignTiles();
        Check.same("isStale in a new object", map.isStale(0, 0, 0), false);
        map.addWay(0, 0, 0, 16, SignTiles.HIGHWAY);
        Check.same("isStale after a change", map.isStale(0, 0, 0), false);
        map.draw(1, 0, 0);
        map.edit(0, 0, SignTiles.ROAD, SignTiles.BOTH);
        Check.same("isStale of a neighbour of what was drawn", map.isStale(1, 1, 0), false);
        Check.same("isStale of what was drawn", map.isStale(1, 0, 0), true);
        Check.changesNothing("isStale of a stale tile", Maps::rich, x -> x.isStale(4, 0, 0));
        Check.changesNothing("isStale of what was not drawn", Maps::rich, x -> x.isStale(4, 1, 0));
    }

    private static void promise18ComparesStamps() {
        Check.sentence(18, "has a version with a stamp above the tile's");
        SignTiles map = one(0, 0, 1, SignTiles.HIGHWAY);
        for (int change = 0; change < 6; change++) {
            map.draw(0, 0, 0);
            Check.same("isStale with the stamp of the tile", map.isStale(0, 0, 0), false);
            map.edit(0, 0, SignTiles.HIGHWAY, 1 + change % 2);
            Check.same("isStale with the next stamp", map.isStale(0, 0, 0), true);
        }
        Check.same("the last stamps", map.stampOf(0, 6) - map.tileStamp(0, 0, 0), 1);
        map.edit(0, 0, SignTiles.HIGHWAY, SignTiles.BOTH);
        map.edit(0, 0, SignTiles.HIGHWAY, SignTiles.AGAINST);
        Check.same("isStale though it is as it was drawn", map.isStale(0, 0, 0), true);
    }

    private static void promise18ShowsKindsByZoom() {
        for (int zoom = 0; zoom < 5; zoom++) {
            for (int kind = SignTiles.LANE; kind <= SignTiles.HIGHWAY; kind++) {
                Check.sentence(18, "(Ahead of its first version there is none.)");
                SignTiles added = new SignTiles();
                added.draw(zoom, 0, 0);
                added.addWay(0, 0, 0, 1, kind);
                String what = "isStale in zoom " + zoom + " by a kind " + kind;
                Check.same(what + " that is new", added.isStale(zoom, 0, 0), kind >= SHOWN[zoom]);
                Check.sentence(18, "and that is shown in the zoom, or the version ahead of it was");
                for (int before = SignTiles.LANE; before <= SignTiles.HIGHWAY; before++) {
                    SignTiles map = one(0, 0, 1, before);
                    map.draw(zoom, 0, 0);
                    map.edit(0, 0, kind, SignTiles.ALONG);
                    boolean isShown = kind >= SHOWN[zoom] || before >= SHOWN[zoom];
                    Check.same(what + " that was " + before, map.isStale(zoom, 0, 0), isShown);
                }
            }
        }
    }

    private static void promise18IncludesBorders() {
        Check.sentence(18, "A tile that was drawn is stale if some way of which a part is in it has a version");
        for (int zoom = 1; zoom < 5; zoom++) {
            int border = 16 >> zoom;
            isStaleBy(zoom, 0, border, 1, true);
            isStaleBy(zoom, border, border, -1, true);
            isStaleBy(zoom, border, 0, 1, true);
            isStaleBy(zoom, 0, border + 1, 1, false);
            isStaleBy(zoom, border + 1, border, -1, false);
        }
    }

    private static void isStaleBy(int zoom, int x, int y, int length, boolean due) {
        SignTiles map = new SignTiles();
        map.draw(zoom, 0, 0);
        if (x <= 15 && y <= 15) {
            map.addWay(0, x, y, length, SignTiles.HIGHWAY);
            Check.same("isStale in zoom " + zoom + " by a way at " + x + ", " + y, map.isStale(zoom, 0, 0), due);
        }
    }

    private static void promise19HasARange() {
        Check.sentence(19, "if there is no such zoom");
        Check.indexRange(Maps::rich, 0, 4, SignTiles::staleTiles);
        Check.outside(IndexOutOfBoundsException.class, SignTiles::new, 0, 4, SignTiles::staleTiles);
        Check.changesNothing("staleTiles", Maps::rich, map -> map.staleTiles(4));
    }

    private static void promise19CountsNoneOneAndAll() {
        Check.sentence(19, "Returns how many tiles of a zoom are stale.");
        for (int zoom = 0; zoom < 5; zoom++) {
            int last = (1 << zoom) - 1;
            SignTiles map = highways();
            Check.same("staleTiles of what was not drawn", map.staleTiles(zoom), 0);
            drawZoom(map, zoom);
            Check.same("staleTiles of what was drawn", map.staleTiles(zoom), 0);
            for (int way = 0; way < 8; way++) {
                map.edit(0, way, SignTiles.ROAD, SignTiles.ALONG);
            }
            Check.same("staleTiles of a whole zoom", map.staleTiles(zoom), 1 << 2 * zoom);
            Check.same("staleTiles of another zoom", map.staleTiles((zoom + 1) % 5), 0);
            map.draw(zoom, last, last);
            Check.same("staleTiles but for one", map.staleTiles(zoom), (1 << 2 * zoom) - 1);
            SignTiles single = highways();
            single.draw(zoom, last, last);
            single.edit(0, 7, SignTiles.HIGHWAY, SignTiles.ALONG);
            Check.same("staleTiles of one", single.staleTiles(zoom), 1);
        }
    }

    private static void promise20DrawsNoneOneAndAll() {
        Check.sentence(20, "Returns how many they are.");
        Check.same("refresh in a new object", new SignTiles().refresh(), 0);
        Check.same("refresh of what was not drawn", highways().refresh(), 0);
        SignTiles map = allDrawn();
        Check.same("refresh of what is not stale", map.refresh(), 0);
        for (int way = 0; way < 8; way++) {
            map.edit(0, way, SignTiles.HIGHWAY, SignTiles.ALONG);
        }
        Check.same("refresh of all tiles", map.refresh(), 341);
        Check.same("refresh again", map.refresh(), 0);
        Check.sentence(20, "Draws all tiles that are stale.");
        for (int zoom = 0; zoom < 5; zoom++) {
            int last = (1 << zoom) - 1;
            Check.same("staleTiles after it", map.staleTiles(zoom), 0);
            Check.same("stamp of the first tile", map.tileStamp(zoom, 0, 0), 16);
            Check.same("stamp of the last tile", map.tileStamp(zoom, last, last), 16);
        }
        Check.same("picture of the last tile", map.picture(4, 15, 15), with(EMPTY, 7, 3, 1));
        SignTiles single = highways();
        single.draw(4, 15, 15);
        single.edit(0, 7, SignTiles.HIGHWAY, SignTiles.ALONG);
        Check.same("refresh of one", single.refresh(), 1);
        Check.same("the clock after it", single.clock(), 9);
    }

    private static void promise20LeavesOthers() {
        Check.sentence(20, "Draws all tiles that are stale.");
        SignTiles map = highways();
        map.draw(4, 0, 0);
        map.draw(4, 0, 15);
        map.edit(0, 7, SignTiles.HIGHWAY, SignTiles.ALONG);
        Check.same("refresh", map.refresh(), 1);
        Check.same("the stamp of what was not stale", map.tileStamp(4, 0, 0), 8);
        Check.same("the stamp of what was stale", map.tileStamp(4, 0, 15), 9);
        Check.same("the stamp of what was not drawn", map.tileStamp(4, 0, 14), SignTiles.NONE);
        SignTiles notShown = one(0, 0, 1, SignTiles.LANE);
        notShown.draw(2, 0, 0);
        notShown.edit(0, 0, SignTiles.LANE, SignTiles.ALONG);
        Check.same("refresh by what is not shown", notShown.refresh(), 0);
        Check.same("the stamp then", notShown.tileStamp(2, 0, 0), 1);
    }
}
