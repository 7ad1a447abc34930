import java.util.function.Supplier;

/** Promises 1 to 13: a new object, ways and editors. */
public final class WayTest {
    private static final int LOWEST = Integer.MIN_VALUE;
    private static final int HIGHEST = Integer.MAX_VALUE;

    private WayTest() {
    }

    public static void main(String[] args) {
        promise1BeginsWithoutWaysAndTiles();
        promise2AddsWays();
        promise2RefusesWays();
        promise3Edits();
        promise3RefusesEdits();
        promise4Confirms();
        promise4Refuses();
        promise4RefusesJudges();
        promise5Reverts();
        promise5RefusesReverts();
        promise6SetsGuards();
        promise7TellsTrust();
        promise7KeepsTrustWithinItsRange();
        promises8To13TellOfWays();
        promise12ForgetsWhatWaits();
        promise3ChangesInEachOf512Calls();
        promises2To22ThrowNothingElseInLaterCalls();
        Check.close("WayTest");
    }

    /** Way 0 is a lane with two versions, way 1 a highway with a guard of 60 and a change of editor 2 that waits. */
    private static SignTiles twoWays() {
        SignTiles map = new SignTiles();
        map.addWay(0, 0, 0, 4, SignTiles.LANE);
        map.addWay(1, 3, 5, -6, SignTiles.HIGHWAY);
        map.edit(1, 0, SignTiles.LANE, SignTiles.ALONG);
        map.guard(1, 60);
        map.edit(2, 1, SignTiles.ROAD, SignTiles.AGAINST);
        map.draw(0, 0, 0);
        map.draw(4, 0, 0);
        return map;
    }

    private static SignTiles oneWay(int guard) {
        SignTiles map = new SignTiles();
        map.addWay(0, 0, 0, 3, SignTiles.STREET);
        map.guard(0, guard);
        return map;
    }

    private static SignTiles fullMap() {
        SignTiles map = new SignTiles();
        for (int i = 0; i < 40; i++) {
            map.addWay(i % 6, i % 16, i % 17, 1, i % 4);
        }
        return map;
    }

    private static void promise1BeginsWithoutWaysAndTiles() {
        SignTiles map = new SignTiles();
        Check.same("ways of a new object", map.ways(), 0);
        Check.same("clock of a new object", map.clock(), 0);
        for (int editor = 0; editor < 6; editor++) {
            Check.same("trust of a new object", map.trust(editor), 50);
        }
        for (int car = 0; car < 3; car++) {
            Check.same("carAt of a new object", map.carAt(car), 0);
            Check.same("target of a new object", map.target(car), SignTiles.NONE);
        }
        for (int zoom = 0; zoom < 5; zoom++) {
            int last = (1 << zoom) - 1;
            Check.same("staleTiles of a new object", map.staleTiles(zoom), 0);
            Check.same("tileStamp of a new object", map.tileStamp(zoom, last, last), SignTiles.NONE);
        }
        Check.same("refresh of a new object", map.refresh(), 0);
        Check.noIndex("versions of a new object", SignTiles::new, x -> x.versions(0));
        Check.noState("picture of a new object", SignTiles::new, x -> x.picture(0, 0, 0));
    }

    private static void promise2AddsWays() {
        SignTiles map = new SignTiles();
        Check.same("the first way", map.addWay(0, 0, 0, 16, SignTiles.LANE), 0);
        Check.same("a way downwards", map.addWay(5, 16, 0, -16, SignTiles.HIGHWAY), 1);
        Check.same("the shortest way to the right", map.addWay(3, 15, 16, 1, SignTiles.STREET), 2);
        Check.same("the shortest way downwards", map.addWay(3, 16, 15, -1, SignTiles.ROAD), 3);
        Check.same("the same way again", map.addWay(3, 16, 15, -1, SignTiles.ROAD), 4);
        Check.same("its version", map.version(1, 0), 306);
        Check.same("its direction is BOTH", map.version(0, 0), 1);
        Check.same("its stamp", map.stampOf(1, 0), 2);
        Check.same("the clock after five ways", map.clock(), 5);
        Check.same("its versions", map.versions(4), 1);
        Check.same("its guard", map.guard(4, 0), 0);
        Check.same("its waiting", map.waiting(4), SignTiles.NONE);
        Check.same("its end to the right", map.drive(0, 16, 0), 16);
        Check.same("a sign at its end", map.see(0, 0, SignTiles.ALONG, 50), false);
        Check.same("its end downwards", map.drive(0, 16, 16), 16);
        Check.same("a sign at its end downwards", map.see(0, 1, SignTiles.ALONG, 50), false);
        SignTiles full = fullMap();
        Check.same("forty ways", full.ways(), 40);
        Check.same("the last of forty", full.version(39, 0), 304);
    }

    private static void promise2RefusesWays() {
        Supplier<SignTiles> setUp = WayTest::twoWays;
        for (int wrong : new int[] {-1, 6, LOWEST, HIGHEST}) {
            Check.noIndex("addWay by editor " + wrong, setUp, x -> x.addWay(wrong, 0, 0, 1, 0));
        }
        for (int wrong : new int[] {-1, 17, LOWEST, HIGHEST}) {
            Check.noIndex("addWay at x " + wrong, setUp, x -> x.addWay(0, wrong, 0, 1, 0));
            Check.noIndex("addWay at y " + wrong, setUp, x -> x.addWay(0, 0, wrong, -1, 0));
        }
        for (int wrong : new int[] {0, 17, -17, LOWEST, HIGHEST}) {
            Check.noArgument("addWay of length " + wrong, setUp, x -> x.addWay(0, 16, 16, wrong, 0));
            Check.noIndex("addWay of length " + wrong + " off the map", setUp, x -> x.addWay(0, 17, 0, wrong, 0));
        }
        for (int wrong : new int[] {-1, 4, LOWEST, HIGHEST}) {
            Check.noArgument("addWay of kind " + wrong, setUp, x -> x.addWay(0, 0, 0, 1, wrong));
            Check.noIndex("addWay of kind " + wrong + " to no end", setUp, x -> x.addWay(0, 16, 0, 1, wrong));
        }
        Check.noIndex("addWay that ends too far right", setUp, x -> x.addWay(0, 1, 0, 16, 0));
        Check.noIndex("addWay that ends too far down", setUp, x -> x.addWay(0, 0, 1, -16, 0));
        Supplier<SignTiles> full = WayTest::fullMap;
        Check.noState("addWay to forty", full, x -> x.addWay(0, 0, 0, 1, 0));
        Check.noArgument("addWay of no kind to forty", full, x -> x.addWay(0, 0, 0, 1, 4));
        Check.noIndex("addWay by no editor to forty", full, x -> x.addWay(6, 0, 0, 1, 4));
    }

    private static void promise3Edits() {
        SignTiles map = oneWay(50);
        Check.same("edit with as much trust as the guard", map.edit(5, 0, SignTiles.HIGHWAY, SignTiles.AGAINST), true);
        Check.same("the new version", map.version(0, 1), 326);
        Check.same("the first version stays", map.version(0, 0), 101);
        Check.same("its stamp", map.stampOf(0, 1), 2);
        Check.same("edit of the kind alone", map.edit(5, 0, SignTiles.LANE, SignTiles.AGAINST), true);
        Check.same("edit of the direction alone", map.edit(5, 0, SignTiles.LANE, SignTiles.ALONG), true);
        Check.same("the clock", map.clock(), 4);
        Check.same("the trust stays", map.trust(5), 50);
        map.guard(0, 51);
        Check.same("edit with less trust", map.edit(5, 0, SignTiles.ROAD, SignTiles.BOTH), false);
        Check.same("the change waits", map.waiting(0), 206);
        Check.same("no new version", map.versions(0), 4);
        Check.same("the clock stays", map.clock(), 4);
        Check.same("edit in its place", map.edit(1, 0, SignTiles.STREET, SignTiles.BOTH), false);
        Check.same("the later change waits", map.waiting(0), 102);
        Check.same("the change that waits once more", map.edit(2, 0, SignTiles.STREET, SignTiles.BOTH), false);
        Check.same("it is the later one's", map.waiting(0), 103);
    }

    private static void promise3RefusesEdits() {
        Supplier<SignTiles> setUp = WayTest::twoWays;
        for (int wrong : new int[] {-1, 6, LOWEST, HIGHEST}) {
            Check.noIndex("edit by editor " + wrong, setUp, x -> x.edit(wrong, 0, 0, 0));
        }
        for (int wrong : new int[] {-1, 2, LOWEST, HIGHEST}) {
            Check.noIndex("edit of way " + wrong, setUp, x -> x.edit(0, wrong, 0, 0));
            Check.noIndex("edit of way " + wrong + " to no kind", setUp, x -> x.edit(0, wrong, 4, 3));
        }
        for (int wrong : new int[] {-1, 4, LOWEST, HIGHEST}) {
            Check.noArgument("edit to kind " + wrong, setUp, x -> x.edit(0, 0, wrong, SignTiles.ALONG));
        }
        for (int wrong : new int[] {-1, 3, LOWEST, HIGHEST}) {
            Check.noArgument("edit to direction " + wrong, setUp, x -> x.edit(0, 0, SignTiles.LANE, wrong));
        }
        Check.noState("edit to what it is", setUp, x -> x.edit(0, 0, SignTiles.LANE, SignTiles.ALONG));
        Check.noState("edit to what it is, below its guard", setUp,
                x -> x.edit(0, 1, SignTiles.HIGHWAY, SignTiles.BOTH));
    }

    private static void promise4Confirms() {
        SignTiles map = oneWay(51);
        map.edit(2, 0, SignTiles.ROAD, SignTiles.ALONG);
        map.guard(0, 50);
        Check.same("judge that confirms", map.judge(4, 0, false), 55);
        Check.same("the trust of who wanted it", map.trust(2), 55);
        Check.same("the trust of who confirmed it", map.trust(4), 50);
        Check.same("the new version is of who wanted it", map.version(0, 1), 213);
        Check.same("its stamp", map.stampOf(0, 1), 2);
        Check.same("the clock", map.clock(), 2);
        Check.same("nothing waits", map.waiting(0), SignTiles.NONE);
    }

    private static void promise4Refuses() {
        SignTiles map = oneWay(51);
        map.edit(2, 0, SignTiles.ROAD, SignTiles.ALONG);
        map.guard(0, 50);
        Check.same("judge that refuses", map.judge(4, 0, true), 45);
        Check.same("the trust of who wanted it", map.trust(2), 45);
        Check.same("the trust of who refused it", map.trust(4), 50);
        Check.same("no new version", map.versions(0), 1);
        Check.same("the clock stays", map.clock(), 1);
        Check.same("nothing waits", map.waiting(0), SignTiles.NONE);
        Check.same("less trust than the guard now", map.edit(2, 0, SignTiles.ROAD, SignTiles.ALONG), false);
    }

    private static void promise4RefusesJudges() {
        Supplier<SignTiles> setUp = WayTest::twoWays;
        for (boolean isRefused : new boolean[] {true, false}) {
            for (int wrong : new int[] {-1, 6, LOWEST, HIGHEST}) {
                Check.noIndex("judge by editor " + wrong, setUp, x -> x.judge(wrong, 1, isRefused));
            }
            for (int wrong : new int[] {-1, 2, LOWEST, HIGHEST}) {
                Check.noIndex("judge of way " + wrong, setUp, x -> x.judge(0, wrong, isRefused));
            }
            Check.noState("judge where nothing waits", setUp, x -> x.judge(0, 0, isRefused));
            Check.noState("judge below the guard", setUp, x -> x.judge(0, 1, isRefused));
            Check.noState("judge of one's own", WayTest::waitsBelowItsGuard, x -> x.judge(2, 0, isRefused));
        }
        Check.same("another one judges it", waitsBelowItsGuard().judge(3, 0, false), 55);
    }

    /** Editor 2 has trust enough by now, but their change waits. */
    private static SignTiles waitsBelowItsGuard() {
        SignTiles map = oneWay(51);
        map.edit(2, 0, SignTiles.ROAD, SignTiles.ALONG);
        map.guard(0, 0);
        return map;
    }

    /** Editor 0 has a trust of 55, and way 0 a version that editor 1 made, whose trust is 50. */
    private static SignTiles trustedEditor() {
        SignTiles map = oneWay(51);
        map.edit(0, 0, SignTiles.ROAD, SignTiles.ALONG);
        map.guard(0, 50);
        map.judge(1, 0, false);
        map.edit(1, 0, SignTiles.HIGHWAY, SignTiles.AGAINST);
        return map;
    }

    private static void promise5Reverts() {
        SignTiles map = trustedEditor();
        Check.same("revert", map.revert(0, 0), 40);
        Check.same("the trust of whose version it was", map.trust(1), 40);
        Check.same("the trust of who reverts", map.trust(0), 55);
        Check.same("the new version", map.version(0, 3), 211);
        Check.same("the version that was reverted stays", map.version(0, 2), 322);
        Check.same("its stamp", map.stampOf(0, 3), 4);
        Check.same("the clock", map.clock(), 4);
        SignTiles guarded = trustedEditor();
        guarded.guard(0, 100);
        Check.same("the guard does not hinder a revert", guarded.revert(0, 0), 40);
        Check.same("a revert is a version that can be reverted", revertTwice(), 45);
    }

    /** Editor 3 has a trust of 60, and so reverts what editor 0 reverted with 55. */
    private static int revertTwice() {
        SignTiles map = trustedEditor();
        for (int i = 0; i < 2; i++) {
            map.guard(0, 60);
            map.edit(3, 0, SignTiles.LANE, i);
            map.guard(0, 0);
            map.judge(4, 0, false);
        }
        map.edit(1, 0, SignTiles.STREET, SignTiles.BOTH);
        map.revert(0, 0);
        return map.revert(3, 0);
    }

    private static void promise5RefusesReverts() {
        Supplier<SignTiles> setUp = WayTest::trustedEditor;
        for (int wrong : new int[] {-1, 6, LOWEST, HIGHEST}) {
            Check.noIndex("revert by editor " + wrong, setUp, x -> x.revert(wrong, 0));
        }
        for (int wrong : new int[] {-1, 1, LOWEST, HIGHEST}) {
            Check.noIndex("revert of way " + wrong, setUp, x -> x.revert(0, wrong));
        }
        Check.noState("revert with as much trust", setUp, x -> x.revert(2, 0));
        Check.noState("revert of one's own", setUp, x -> x.revert(1, 0));
        Check.noState("revert of a first version", WayTest::trustedEditorOfAFirstVersion, x -> x.revert(0, 1));
        Check.noState("revert of a sign's version", WayTest::signedWay, x -> x.revert(0, 0));
        Check.noState("revert with less trust", WayTest::revertedWay, x -> x.revert(1, 0));
    }

    private static SignTiles revertedWay() {
        SignTiles map = trustedEditor();
        map.revert(0, 0);
        return map;
    }

    private static SignTiles trustedEditorOfAFirstVersion() {
        SignTiles map = trustedEditor();
        map.addWay(1, 5, 5, 1, SignTiles.LANE);
        return map;
    }

    private static SignTiles signedWay() {
        SignTiles map = trustedEditor();
        map.see(0, 0, SignTiles.BOTH, 0);
        map.drive(1, 3, 0);
        map.see(1, 0, SignTiles.BOTH, 0);
        return map;
    }

    private static void promise6SetsGuards() {
        SignTiles map = twoWays();
        Check.same("the guard at first", map.guard(0, 100), 0);
        Check.same("the guard before", map.guard(0, 0), 100);
        Check.same("the guard of another way", map.guard(1, 1), 60);
        Check.same("what waits stays", map.waiting(1), 223);
        Check.same("the clock stays", map.clock(), 3);
        Supplier<SignTiles> setUp = WayTest::twoWays;
        for (int wrong : new int[] {-1, 2, LOWEST, HIGHEST}) {
            Check.noIndex("guard of way " + wrong, setUp, x -> x.guard(wrong, 50));
            Check.noIndex("guard out of range of way " + wrong, setUp, x -> x.guard(wrong, 101));
        }
        for (int wrong : new int[] {-1, 101, LOWEST, HIGHEST}) {
            Check.noArgument("guard of " + wrong, setUp, x -> x.guard(0, wrong));
        }
    }

    private static void promise7TellsTrust() {
        Supplier<SignTiles> setUp = WayTest::twoWays;
        for (int wrong : new int[] {-1, 6, LOWEST, HIGHEST}) {
            Check.noIndex("trust of editor " + wrong, setUp, x -> x.trust(wrong));
        }
        Check.same("trust of the last editor", twoWays().trust(5), 50);
    }

    private static void promise7KeepsTrustWithinItsRange() {
        SignTiles growing = manyWaits();
        SignTiles falling = manyWaits();
        for (int way = 0; way < 12; way++) {
            Check.same("trust that grows", growing.judge(4, way, false), Math.min(100, 55 + 5 * way));
            Check.same("trust that falls", falling.judge(4, way, true), Math.max(0, 45 - 5 * way));
        }
        Check.same("the most trust", growing.trust(3), 100);
        Check.same("the least trust", falling.trust(3), 0);
        growing.guard(0, 100);
        Check.same("the most trust is enough for the most guard", growing.edit(3, 0, SignTiles.LANE, 0), true);
        falling.edit(3, 0, SignTiles.HIGHWAY, SignTiles.BOTH);
        Check.same("a revert at a trust of 0", falling.revert(4, 0), 0);
        SignTiles low = manyWaits();
        for (int way = 0; way < 9; way++) {
            low.judge(4, way, true);
        }
        low.edit(3, 0, SignTiles.HIGHWAY, SignTiles.BOTH);
        Check.same("a trust that is left", low.trust(3), 5);
        Check.same("a revert at a trust of 5", low.revert(4, 0), 0);
    }

    /** Twelve ways with guards of 0, and a change of editor 3 that waits for each. */
    private static SignTiles manyWaits() {
        SignTiles map = new SignTiles();
        for (int way = 0; way < 12; way++) {
            map.addWay(0, way, 0, 1, SignTiles.LANE);
            map.guard(way, 100);
            map.edit(3, way, SignTiles.ROAD, SignTiles.BOTH);
            map.guard(way, 0);
        }
        return map;
    }

    private static void promises8To13TellOfWays() {
        SignTiles map = twoWays();
        Check.same("ways", map.ways(), 2);
        Check.same("versions", map.versions(0), 2);
        Check.same("versions of another way", map.versions(1), 1);
        Check.same("version 0", map.version(0, 0), 1);
        Check.same("version 1", map.version(0, 1), 12);
        Check.same("stampOf version 0", map.stampOf(0, 0), 1);
        Check.same("stampOf version 1", map.stampOf(0, 1), 3);
        Check.same("stampOf another way", map.stampOf(1, 0), 2);
        Check.same("waiting", map.waiting(1), 223);
        Check.same("waiting where nothing does", map.waiting(0), -1);
        Check.same("clock", map.clock(), 3);
        Check.same("version made by no editor", signedWay().version(0, 3), 300);
        Supplier<SignTiles> setUp = WayTest::twoWays;
        for (int wrong : new int[] {-1, 2, LOWEST, HIGHEST}) {
            Check.noIndex("versions of way " + wrong, setUp, x -> x.versions(wrong));
            Check.noIndex("version of way " + wrong, setUp, x -> x.version(wrong, 0));
            Check.noIndex("version " + wrong, setUp, x -> x.version(0, wrong));
            Check.noIndex("stampOf way " + wrong, setUp, x -> x.stampOf(wrong, 0));
            Check.noIndex("stampOf version " + wrong, setUp, x -> x.stampOf(0, wrong));
            Check.noIndex("waiting of way " + wrong, setUp, x -> x.waiting(wrong));
        }
        Check.noIndex("version 1 of a way that has one", setUp, x -> x.version(1, 1));
    }

    private static void promise12ForgetsWhatWaits() {
        SignTiles edited = twoWays();
        edited.guard(1, 50);
        edited.edit(5, 1, SignTiles.LANE, SignTiles.BOTH);
        Check.same("what waits after an edit", edited.waiting(1), SignTiles.NONE);
        SignTiles reverted = trustedEditor();
        reverted.guard(0, 100);
        reverted.edit(2, 0, SignTiles.LANE, SignTiles.BOTH);
        reverted.revert(0, 0);
        Check.same("what waits after a revert", reverted.waiting(0), SignTiles.NONE);
        SignTiles signed = twoWays();
        signed.drive(0, 3, 5);
        signed.drive(1, 3, 11);
        signed.see(0, 1, SignTiles.ALONG, 0);
        Check.same("what waits after a sign that changes nothing", signed.waiting(1), 223);
        signed.see(1, 1, SignTiles.ALONG, 0);
        Check.same("what waits after signs that agree", signed.waiting(1), SignTiles.NONE);
        SignTiles other = twoWays();
        other.edit(5, 0, SignTiles.ROAD, SignTiles.BOTH);
        Check.same("what waits after another way's edit", other.waiting(1), 223);
    }

    private static void promise3ChangesInEachOf512Calls() {
        SignTiles map = new SignTiles();
        map.addWay(0, 0, 0, 1, SignTiles.LANE);
        for (int call = 2; call <= 512; call++) {
            map.edit(call % 6, 0, SignTiles.LANE, call % 2 == 0 ? SignTiles.ALONG : SignTiles.AGAINST);
        }
        Check.same("versions after 512 calls", map.versions(0), 512);
    }

    /** What later calls answer is free; but the machine itself must not throw even then. */
    private static void promises2To22ThrowNothingElseInLaterCalls() {
        SignTiles map = new SignTiles();
        map.addWay(0, 0, 0, 1, SignTiles.LANE);
        map.addWay(0, 0, 0, 1, SignTiles.LANE);
        map.guard(1, 51);
        map.edit(0, 1, SignTiles.ROAD, SignTiles.BOTH);
        map.guard(1, 50);
        String others = "";
        for (int call = 0; call < 2000; call++) {
            int direction = call % 3;
            others += other(() -> map.edit(0, 0, SignTiles.LANE, direction));
            others += other(() -> map.draw(4, 0, 0));
            others += other(map::refresh);
            others += other(() -> map.version(0, map.versions(0) - 1));
        }
        others += other(() -> map.addWay(0, 0, 0, 1, SignTiles.LANE));
        others += other(() -> map.judge(1, 1, false));
        others += other(() -> map.revert(1, 0));
        others += other(() -> map.see(0, 0, SignTiles.BOTH, 0));
        Check.same("what 8000 calls throw beside an IllegalStateException", others, "");
    }

    private static String other(Runnable call) {
        try {
            call.run();
        } catch (IllegalStateException e) {
            return "";
        } catch (RuntimeException e) {
            return e + "; ";
        }
        return "";
    }
}
