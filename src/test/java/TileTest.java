import java.util.function.Supplier;

/** Promises 14 to 20: tiles. */
public final class TileTest {
    private static final int LOWEST = Integer.MIN_VALUE;
    private static final int HIGHEST = Integer.MAX_VALUE;
    private static final int EMPTY = 17;

    private TileTest() {
    }

    public static void main(String[] args) {
        promise14DrawsWhatTheZoomShows();
        promise14DrawsWhatIsInTheTile();
        promise14DrawsBorders();
        promise15KeepsThePicture();
        promise15WrapsAround();
        promise16DrawsAnew();
        promise17TellsStamps();
        promise18TellsWhatIsStale();
        promise18LooksAtTheVersionAhead();
        promise18LooksAtEachVersionSince();
        promise18LooksAtNewWays();
        promise19CountsStaleTiles();
        promise20Refreshes();
        promises14To18RefuseWhatIsNoTile();
        promises15And16RefuseWhatWasNotDrawn();
        Check.close("TileTest");
    }

    /** A lane, a street, a road and a highway, each right through the map, in the rows 2, 6, 10 and 14. */
    private static SignTiles fourWays() {
        SignTiles map = new SignTiles();
        for (int kind = SignTiles.LANE; kind <= SignTiles.HIGHWAY; kind++) {
            map.addWay(0, 0, 2 + 4 * kind, 16, kind);
        }
        return map;
    }

    private static int with(int picture, int way, int kind, int direction) {
        return 31 * picture + 16 * way + 4 * kind + direction;
    }

    private static void drawAll(SignTiles map, int zoom) {
        for (int y = 0; y < 1 << zoom; y++) {
            for (int x = 0; x < 1 << zoom; x++) {
                map.draw(zoom, x, y);
            }
        }
    }

    private static void promise14DrawsWhatTheZoomShows() {
        SignTiles map = fourWays();
        map.edit(0, 3, SignTiles.HIGHWAY, SignTiles.AGAINST);
        map.edit(0, 2, SignTiles.ROAD, SignTiles.ALONG);
        Check.same("draw of zoom 0", map.draw(0, 0, 0), 1);
        Check.same("picture of zoom 0", map.picture(0, 0, 0), with(EMPTY, 3, 3, 2));
        Check.same("picture of zoom 0 in numbers", map.picture(0, 0, 0), 589);
        Check.same("draw of zoom 1, above", map.draw(1, 0, 0), 0);
        Check.same("draw of zoom 1, below", map.draw(1, 0, 1), 2);
        Check.same("picture of zoom 1", map.picture(1, 0, 1), with(with(EMPTY, 2, 2, 1), 3, 3, 2));
        int[] drawn = {0, 1, 1, 1};
        for (int y = 0; y < 4; y++) {
            Check.same("draw of zoom 2, row " + y, map.draw(2, 3, y), drawn[y]);
            Check.same("draw of zoom 3, row " + y, map.draw(3, 7, 2 * y), 1);
            Check.same("draw of zoom 4, row " + y, map.draw(4, 15, 4 * y + 2), 1);
        }
        Check.same("picture of zoom 3", map.picture(3, 7, 0), with(EMPTY, 0, 0, 0));
    }

    private static void promise14DrawsWhatIsInTheTile() {
        SignTiles map = new SignTiles();
        map.addWay(0, 5, 9, 2, SignTiles.LANE);
        map.addWay(0, 9, 5, -2, SignTiles.LANE);
        for (int y = 0; y < 16; y++) {
            for (int x = 0; x < 16; x++) {
                boolean isAtFirst = x >= 4 && x <= 7 && (y == 8 || y == 9);
                boolean isAtSecond = y >= 4 && y <= 7 && (x == 8 || x == 9);
                int due = (isAtFirst ? 1 : 0) + (isAtSecond ? 1 : 0);
                Check.same("draw of " + x + ", " + y, map.draw(4, x, y), due);
                int picture = isAtFirst ? with(EMPTY, 0, 0, 0) : isAtSecond ? with(EMPTY, 1, 0, 0) : EMPTY;
                Check.same("picture of " + x + ", " + y, map.picture(4, x, y), picture);
            }
        }
    }

    private static void promise14DrawsBorders() {
        SignTiles map = new SignTiles();
        map.addWay(0, 8, 0, -16, SignTiles.HIGHWAY);
        map.addWay(0, 4, 12, 4, SignTiles.HIGHWAY);
        map.addWay(0, 0, 16, 16, SignTiles.HIGHWAY);
        Check.same("draw left of a way on the border", map.draw(1, 0, 0), 1);
        Check.same("draw right of a way on the border", map.draw(1, 1, 0), 1);
        Check.same("draw where one point of a way is", map.draw(1, 1, 1), 3);
        Check.same("draw where one corner is", map.draw(2, 2, 2), 2);
        Check.same("draw below where one corner is", map.draw(2, 0, 3), 2);
        Check.same("draw of the last row", map.draw(4, 15, 15), 1);
        Check.same("draw of the row above it", map.draw(4, 15, 14), 0);
    }

    private static void promise15KeepsThePicture() {
        SignTiles map = fourWays();
        map.draw(3, 0, 0);
        int before = map.picture(3, 0, 0);
        map.edit(0, 0, SignTiles.STREET, SignTiles.ALONG);
        map.addWay(0, 0, 0, 1, SignTiles.LANE);
        Check.same("picture after an edit", map.picture(3, 0, 0), before);
        Check.same("draw again", map.draw(3, 0, 0), 2);
        Check.same("picture as it was drawn last", map.picture(3, 0, 0), with(with(EMPTY, 0, 1, 1), 4, 0, 0));
        map.draw(3, 7, 7);
        Check.same("picture of another tile", map.picture(3, 7, 7), with(EMPTY, 3, 3, 0));
        map.draw(3, 7, 2);
        map.draw(3, 2, 7);
        Check.same("picture of a tile at x 7", map.picture(3, 7, 2), with(EMPTY, 1, 1, 0));
        Check.same("picture of a tile at y 7", map.picture(3, 2, 7), with(EMPTY, 3, 3, 0));
    }

    private static void promise15WrapsAround() {
        SignTiles map = new SignTiles();
        int picture = EMPTY;
        for (int way = 0; way < 40; way++) {
            map.addWay(0, 0, 0, 1, SignTiles.HIGHWAY);
            picture = with(picture, way, SignTiles.HIGHWAY, 0);
        }
        Check.same("draw of forty ways", map.draw(0, 0, 0), 40);
        Check.same("picture of forty ways", map.picture(0, 0, 0), picture);
        Check.same("pictureAnew of forty ways", map.pictureAnew(0, 0, 0), picture);
    }

    private static void promise16DrawsAnew() {
        SignTiles map = fourWays();
        map.edit(0, 2, SignTiles.HIGHWAY, SignTiles.ALONG);
        map.draw(0, 0, 0);
        int drawn = with(with(EMPTY, 2, 3, 1), 3, 3, 0);
        map.edit(0, 2, SignTiles.LANE, SignTiles.ALONG);
        map.edit(0, 3, SignTiles.HIGHWAY, SignTiles.AGAINST);
        map.edit(0, 1, SignTiles.HIGHWAY, SignTiles.BOTH);
        map.addWay(0, 0, 0, 1, SignTiles.HIGHWAY);
        Check.same("pictureAnew is as it was then", map.pictureAnew(0, 0, 0), drawn);
        Check.same("picture is, too", map.picture(0, 0, 0), drawn);
        Check.same("pictureAnew draws nothing", map.tileStamp(0, 0, 0), 5);
        Check.same("draw now", map.draw(0, 0, 0), 3);
        int now = with(with(with(EMPTY, 1, 3, 0), 3, 3, 2), 4, 3, 0);
        Check.same("pictureAnew now", map.pictureAnew(0, 0, 0), now);
        SignTiles empty = new SignTiles();
        empty.draw(4, 0, 0);
        empty.addWay(0, 0, 0, 1, SignTiles.LANE);
        Check.same("pictureAnew of a stamp of 0", empty.pictureAnew(4, 0, 0), EMPTY);
    }

    private static void promise17TellsStamps() {
        SignTiles map = new SignTiles();
        Check.same("tileStamp of what was not drawn", map.tileStamp(2, 1, 3), SignTiles.NONE);
        map.draw(2, 1, 3);
        Check.same("tileStamp at first", map.tileStamp(2, 1, 3), 0);
        Check.same("tileStamp of its mirror", map.tileStamp(2, 3, 1), SignTiles.NONE);
        map.addWay(0, 0, 0, 1, SignTiles.LANE);
        Check.same("tileStamp stays", map.tileStamp(2, 1, 3), 0);
        map.draw(2, 1, 3);
        Check.same("tileStamp drawn again", map.tileStamp(2, 1, 3), 1);
        map.draw(4, 15, 15);
        map.draw(0, 0, 0);
        Check.same("tileStamp of the last tile", map.tileStamp(4, 15, 15), 1);
        Check.same("tileStamp of the first tile", map.tileStamp(0, 0, 0), 1);
        Check.same("tileStamp of its neighbour", map.tileStamp(1, 0, 0), SignTiles.NONE);
    }

    private static void promise18TellsWhatIsStale() {
        SignTiles map = fourWays();
        map.draw(3, 0, 0);
        map.draw(3, 0, 7);
        Check.same("isStale when drawn", map.isStale(3, 0, 0), false);
        Check.same("isStale of what was not drawn", map.isStale(3, 0, 1), false);
        map.edit(0, 0, SignTiles.LANE, SignTiles.AGAINST);
        Check.same("isStale after a change within", map.isStale(3, 0, 0), true);
        Check.same("isStale after a change elsewhere", map.isStale(3, 0, 7), false);
        Check.same("isStale after a change of what was not drawn", map.isStale(3, 0, 1), false);
        map.draw(3, 0, 0);
        Check.same("isStale when drawn again", map.isStale(3, 0, 0), false);
        map.guard(0, 51);
        map.edit(1, 0, SignTiles.LANE, SignTiles.BOTH);
        Check.same("isStale by what waits", map.isStale(3, 0, 0), false);
        map.guard(0, 50);
        map.judge(2, 0, false);
        Check.same("isStale by what is confirmed", map.isStale(3, 0, 0), true);
        map.draw(3, 0, 0);
        map.edit(2, 0, SignTiles.LANE, SignTiles.ALONG);
        map.draw(3, 0, 0);
        map.revert(1, 0);
        Check.same("isStale by a revert", map.isStale(3, 0, 0), true);
        map.draw(3, 0, 0);
        map.drive(0, 0, 2);
        map.drive(1, 16, 2);
        map.see(0, 0, SignTiles.AGAINST, 0);
        Check.same("isStale by one sign", map.isStale(3, 0, 0), false);
        map.see(1, 0, SignTiles.AGAINST, 0);
        Check.same("isStale by signs that agree", map.isStale(3, 0, 0), true);
    }

    private static void promise18LooksAtTheVersionAhead() {
        for (int zoom = 0; zoom < 5; zoom++) {
            for (int before = SignTiles.LANE; before <= SignTiles.HIGHWAY; before++) {
                for (int after = SignTiles.LANE; after <= SignTiles.HIGHWAY; after++) {
                    SignTiles map = new SignTiles();
                    map.addWay(0, 0, 0, 1, before);
                    map.draw(zoom, 0, 0);
                    map.edit(0, 0, after, SignTiles.ALONG);
                    boolean due = Math.max(before, after) >= SignTiles.HIGHWAY - zoom;
                    String what = "isStale in zoom " + zoom + " from kind " + before + " to " + after;
                    Check.same(what, map.isStale(zoom, 0, 0), due);
                }
            }
        }
    }

    private static void promise18LooksAtEachVersionSince() {
        SignTiles map = fourWays();
        map.draw(0, 0, 0);
        map.edit(0, 0, SignTiles.STREET, SignTiles.BOTH);
        map.edit(0, 0, SignTiles.ROAD, SignTiles.BOTH);
        Check.same("isStale by versions that are not shown", map.isStale(0, 0, 0), false);
        map.edit(0, 0, SignTiles.HIGHWAY, SignTiles.BOTH);
        map.edit(0, 0, SignTiles.ROAD, SignTiles.BOTH);
        map.edit(0, 0, SignTiles.STREET, SignTiles.BOTH);
        map.edit(0, 0, SignTiles.LANE, SignTiles.BOTH);
        Check.same("isStale by a version that was shown meanwhile", map.isStale(0, 0, 0), true);
        map.draw(0, 0, 0);
        map.edit(0, 0, SignTiles.ROAD, SignTiles.BOTH);
        Check.same("isStale by a version that was shown earlier", map.isStale(0, 0, 0), false);
    }

    private static void promise18LooksAtNewWays() {
        SignTiles map = new SignTiles();
        map.draw(1, 0, 0);
        map.addWay(0, 0, 0, 1, SignTiles.STREET);
        Check.same("isStale by a way that is not shown", map.isStale(1, 0, 0), false);
        map.addWay(0, 9, 0, 1, SignTiles.ROAD);
        Check.same("isStale by a way elsewhere", map.isStale(1, 0, 0), false);
        map.addWay(0, 8, 8, 1, SignTiles.ROAD);
        Check.same("isStale by a way on its corner", map.isStale(1, 0, 0), true);
    }

    private static void promise19CountsStaleTiles() {
        SignTiles map = fourWays();
        for (int zoom = 0; zoom < 4; zoom++) {
            drawAll(map, zoom);
        }
        map.draw(4, 3, 2);
        map.draw(4, 3, 0);
        map.draw(4, 15, 15);
        map.edit(0, 0, SignTiles.STREET, SignTiles.BOTH);
        int[] due = {0, 0, 4, 16, 1};
        for (int zoom = 0; zoom < 5; zoom++) {
            Check.same("staleTiles of zoom " + zoom, map.staleTiles(zoom), due[zoom]);
        }
        map.draw(3, 3, 0);
        Check.same("staleTiles after one is drawn", map.staleTiles(3), 15);
        for (int wrong : new int[] {-1, 5, LOWEST, HIGHEST}) {
            Check.noIndex("staleTiles of zoom " + wrong, TileTest::fourWays, x -> x.staleTiles(wrong));
        }
    }

    private static void promise20Refreshes() {
        SignTiles map = fourWays();
        drawAll(map, 3);
        map.draw(4, 15, 14);
        map.draw(0, 0, 0);
        Check.same("refresh when none is stale", map.refresh(), 0);
        map.edit(0, 3, SignTiles.HIGHWAY, SignTiles.ALONG);
        Check.same("refresh", map.refresh(), 16 + 1 + 1);
        Check.same("refresh again", map.refresh(), 0);
        Check.same("staleTiles after it", map.staleTiles(3), 0);
        Check.same("the stamp of what was stale", map.tileStamp(3, 5, 7), 5);
        Check.same("its picture", map.picture(3, 5, 7), with(EMPTY, 3, 3, 1));
        Check.same("its picture anew", map.pictureAnew(3, 5, 7), with(EMPTY, 3, 3, 1));
        Check.same("the stamp of what was not stale", map.tileStamp(3, 5, 0), 4);
        Check.same("the stamp of what was not drawn", map.tileStamp(4, 15, 13), SignTiles.NONE);
        Check.same("the picture of the last zoom", map.picture(4, 15, 14), with(EMPTY, 3, 3, 1));
        Check.same("the clock stays", map.clock(), 5);
    }

    private static void promises14To18RefuseWhatIsNoTile() {
        for (int wrong : new int[] {-1, 5, LOWEST, HIGHEST}) {
            refusesTile(wrong, 0, 0);
        }
        for (int zoom = 0; zoom < 5; zoom++) {
            for (int wrong : new int[] {-1, 1 << zoom, LOWEST, HIGHEST}) {
                refusesTile(zoom, wrong, 0);
                refusesTile(zoom, 0, wrong);
            }
        }
    }

    private static void refusesTile(int zoom, int x, int y) {
        String tile = zoom + ", " + x + ", " + y;
        Supplier<SignTiles> setUp = TileTest::fourWays;
        Check.noIndex("draw of " + tile, setUp, map -> map.draw(zoom, x, y));
        Check.noIndex("picture of " + tile, setUp, map -> map.picture(zoom, x, y));
        Check.noIndex("pictureAnew of " + tile, setUp, map -> map.pictureAnew(zoom, x, y));
        Check.noIndex("tileStamp of " + tile, setUp, map -> map.tileStamp(zoom, x, y));
        Check.noIndex("isStale of " + tile, setUp, map -> map.isStale(zoom, x, y));
    }

    private static void promises15And16RefuseWhatWasNotDrawn() {
        for (int zoom = 0; zoom < 5; zoom++) {
            int chosen = zoom;
            int last = (1 << zoom) - 1;
            Check.noState("picture of what was not drawn", TileTest::fourWays, x -> x.picture(chosen, last, 0));
            Check.noState("pictureAnew of what was not drawn", TileTest::fourWays, x -> x.pictureAnew(chosen, last, 0));
        }
    }
}
