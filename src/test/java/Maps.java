/** Maps to begin a test with. */
final class Maps {
    private Maps() {
    }

    /**
     * Something of everything: way 0 is a lane from (0, 0) to (4, 0) with two versions and a change of editor 4 that
     * waits, way 1 a highway from (3, 5) to (3, 11) with a guard of 60 and a change of editor 2 that waits; sightings
     * of both; car 0 at (3, 5), car 1 at (3, 11), car 2 at (0, 0); some tiles are drawn, and some of them stale.
     */
    static SignTiles rich() {
        SignTiles map = new SignTiles();
        map.addWay(0, 0, 0, 4, SignTiles.LANE);
        map.addWay(1, 3, 5, -6, SignTiles.HIGHWAY);
        map.draw(0, 0, 0);
        map.draw(4, 0, 0);
        map.edit(1, 0, SignTiles.LANE, SignTiles.ALONG);
        map.draw(3, 1, 0);
        map.guard(0, 51);
        map.edit(4, 0, SignTiles.STREET, SignTiles.BOTH);
        map.guard(0, 0);
        map.guard(1, 60);
        map.edit(2, 1, SignTiles.ROAD, SignTiles.AGAINST);
        map.see(2, 0, SignTiles.AGAINST, 70);
        map.drive(0, 3, 5);
        map.see(0, 1, SignTiles.ALONG, 40);
        map.drive(1, 3, 11);
        map.see(1, 1, SignTiles.ALONG, 80);
        return map;
    }

    /** Forty ways, each from (0, 0) to (1, 0), of all kinds, by all editors, and all three cars at (0, 0). */
    static SignTiles full() {
        SignTiles map = new SignTiles();
        for (int i = 0; i < 40; i++) {
            map.addWay(i % 6, 0, 0, 1, i % 4);
        }
        return map;
    }

    /** A way from (2, 2), four long, with the direction BOTH: car 0 and 2 at its begin, car 1 at its end. */
    static SignTiles signed(int kind, boolean isDownwards) {
        SignTiles map = new SignTiles();
        map.addWay(0, 2, 2, isDownwards ? -4 : 4, kind);
        map.drive(0, 2, 2);
        map.drive(1, isDownwards ? 2 : 6, isDownwards ? 6 : 2);
        map.drive(2, 2, 2);
        return map;
    }

    static SignTiles street() {
        return signed(SignTiles.STREET, false);
    }

    /** Editors 2 and 3 have these trusts; way 1 is a lane with the direction BOTH, a version, and a guard of 0. */
    static SignTiles withTrusts(int ofEditor2, int ofEditor3) {
        SignTiles map = new SignTiles();
        map.addWay(0, 0, 0, 4, SignTiles.LANE);
        map.addWay(0, 0, 4, 4, SignTiles.LANE);
        becomeTrusted(map, 2, ofEditor2);
        becomeTrusted(map, 3, ofEditor3);
        return map;
    }

    private static void becomeTrusted(SignTiles map, int editor, int trust) {
        boolean isRefused = trust < 50;
        for (int i = 0; i < Math.abs(trust - 50) / 5; i++) {
            map.guard(0, 100);
            map.edit(editor, 0, SignTiles.LANE + i % 2, editor == 2 ? SignTiles.ALONG : SignTiles.AGAINST);
            map.guard(0, 0);
            map.judge(5, 0, isRefused);
        }
    }

    /** So many ways with guards of 0, and a change of editor 3, to a road, that waits for each. */
    static SignTiles waits(int count) {
        SignTiles map = new SignTiles();
        for (int way = 0; way < count; way++) {
            map.addWay(0, way % 16, 0, 1, SignTiles.LANE);
            map.guard(way, 100);
            map.edit(3, way, SignTiles.ROAD, SignTiles.BOTH);
            map.guard(way, 0);
        }
        return map;
    }
}
