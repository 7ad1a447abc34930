import java.util.List;
import java.util.function.Consumer;
import java.util.function.Supplier;

/** The edges that the document names, sentence by sentence: promises 1 to 13. */
public final class WayEdgeTest {
    private static final int LOWEST = Integer.MIN_VALUE;
    private static final int HIGHEST = Integer.MAX_VALUE;
    private static final boolean[] CONFIRMED_AND_REFUSED = {false, true};

    private WayEdgeTest() {
    }

    public static void main(String[] args) {
        promise1BeginsEmpty();
        promise1BeginsWithWhatTheTermsTell();
        promise1SharesNothing();
        promise2HasRanges();
        promise2HasLengths();
        promise2HasEnds();
        promise2HasRoomForForty();
        promise2ThrowsInOrder();
        promise3HasRanges();
        promise3ComparesTrustWithGuard();
        promise3WaitsInPlace();
        promise3RefusesWhatItIs();
        promise3ThrowsInOrder();
        promise4HasRanges();
        promise4NeedsAChangeAndAnotherEditor();
        promise4ComparesTrustWithGuard();
        promise4KeepsTrustInItsRange();
        promise4ThrowsInOrder();
        promise5HasRanges();
        promise5ComparesTrusts();
        promise5NeedsAnEditorsVersion();
        promise5GoesBackByOne();
        promise5ThrowsInOrder();
        promise6HasRanges();
        promise6ThrowsInOrder();
        promise7HasRanges();
        promise8CountsWays();
        promise9CountsVersions();
        promise10CodesVersions();
        promise11TellsStamps();
        promise12TellsWhatWaits();
        promise12ForgetsWhatWaits();
        promise13CountsChanges();
        changesWithThe512thCall();
        Check.namedAll(1, 13);
        Check.close("WayEdgeTest");
    }

    private static void promise1BeginsEmpty() {
        Check.sentence(1, "Begins without ways and tiles.");
        SignTiles stamps = new SignTiles();
        SignTiles stale = new SignTiles();
        for (int zoom = 0; zoom < 5; zoom++) {
            for (int x = 0; x < 1 << zoom; x++) {
                for (int y = 0; y < 1 << zoom; y++) {
                    Check.same("tileStamp", stamps.tileStamp(zoom, x, y), SignTiles.NONE);
                    Check.same("isStale", stale.isStale(zoom, x, y), false);
                }
            }
        }
        Check.same("ways", new SignTiles().ways(), 0);
        Check.same("refresh", new SignTiles().refresh(), 0);
        Check.noIndex("versions", SignTiles::new, map -> map.versions(0));
        Check.noState("picture", SignTiles::new, map -> map.picture(4, 15, 15));
        Check.noState("pictureAnew", SignTiles::new, map -> map.pictureAnew(0, 0, 0));
    }

    private static void promise1BeginsWithWhatTheTermsTell() {
        SignTiles map = new SignTiles();
        Check.sentence(1, "The clock counts changes of ways, 0 at first");
        Check.same("clock", map.clock(), 0);
        Check.sentence(1, "an editor has a trust, 0 to 100, at first 50");
        for (int editor = 0; editor < 6; editor++) {
            Check.same("trust", map.trust(editor), 50);
        }
        Check.sentence(1, "a car is at a crossing, at first (0, 0)");
        for (int car = 0; car < 3; car++) {
            Check.same("carAt", map.carAt(car), 0);
            Check.same("target", map.target(car), SignTiles.NONE);
        }
    }

    private static void promise1SharesNothing() {
        Check.sentence(1, "Begins without ways and tiles.");
        String empty = View.of(new SignTiles());
        SignTiles earlier = new SignTiles();
        Check.same("a rich map is an empty one", View.of(Maps.rich()).equals(empty), false);
        Check.same("a map made ahead of the rich one", View.of(earlier), empty);
        Check.same("a map made after the rich one", View.of(new SignTiles()), empty);
    }

    private static void promise2HasRanges() {
        Check.sentence(2, "0 to 5");
        Check.indexRange(Maps::rich, 0, 5, (map, editor) -> map.addWay(editor, 0, 0, 1, SignTiles.LANE));
        Check.sentence(2, "0 to 16, of its begin");
        Check.indexRange(Maps::rich, 0, 16, (map, x) -> map.addWay(0, x, 0, -16, SignTiles.LANE));
        Check.indexRange(Maps::rich, 0, 16, (map, y) -> map.addWay(0, 0, y, 16, SignTiles.LANE));
        Check.noIndex("from x -1 to 0", Maps::rich, map -> map.addWay(0, -1, 0, 1, SignTiles.LANE));
        Check.noIndex("from x -1 to 15", Maps::rich, map -> map.addWay(0, -1, 16, 16, SignTiles.LANE));
        Check.noIndex("from y -1 to 0", Maps::rich, map -> map.addWay(0, 0, -1, -1, SignTiles.LANE));
        Check.noIndex("from y -1 to 15", Maps::rich, map -> map.addWay(0, 16, -1, -16, SignTiles.LANE));
        Check.sentence(2, "LANE, STREET, ROAD or HIGHWAY");
        Check.argumentRange(Maps::rich, 0, 3, (map, kind) -> map.addWay(0, 0, 0, 1, kind));
        Check.sentence(2, "Adds a way, with the direction BOTH.");
        for (int kind = SignTiles.LANE; kind <= SignTiles.HIGHWAY; kind++) {
            SignTiles map = new SignTiles();
            map.addWay(5, 0, 0, 1, kind);
            Check.same("its version", map.version(0, 0), 100 * kind + 6);
            Check.same("its stamp", map.stampOf(0, 0), 1);
            Check.same("its guard", map.guard(0, 0), 0);
        }
    }

    private static void promise2HasLengths() {
        Check.sentence(2, "1 to 16 to the right; -1 to -16 for so many downwards");
        for (int length = 1; length <= 16; length++) {
            endsAt(length, 100 * length);
            endsAt(-length, length);
        }
        for (int wrong : new int[] {0, 17, -17, 18, -18, 32, -32, HIGHEST, LOWEST, LOWEST + 1}) {
            Check.noArgument("addWay of length " + wrong, Maps::rich, map -> map.addWay(0, 0, 0, wrong, 0));
            Check.noArgument("addWay of length " + wrong, Maps::rich, map -> map.addWay(0, 16, 16, wrong, 0));
        }
    }

    /** A car that is not at its begin is sent to its end: (0, 0) is one of them, the crossing that is due the other. */
    private static void endsAt(int length, int due) {
        SignTiles map = new SignTiles();
        map.addWay(0, 0, 0, length, SignTiles.LANE);
        map.see(1, 0, SignTiles.ALONG, 0);
        map.drive(0, length > 0 ? 16 : 0, length > 0 ? 0 : 16);
        map.send(0);
        Check.same("the end of length " + length, map.carAt(0), due);
    }

    private static void promise2HasEnds() {
        Check.sentence(2, "or length is in its range, and there is no crossing at the end");
        for (int begin = 0; begin <= 16; begin++) {
            for (int length = 1; length <= 16; length++) {
                int from = begin;
                int by = length;
                boolean isOnTheMap = from + by <= 16;
                endsOnTheMap(isOnTheMap, from + " right by " + by, map -> map.addWay(0, from, 16, by, 0));
                endsOnTheMap(isOnTheMap, from + " down by " + by, map -> map.addWay(0, 16, from, -by, 0));
            }
        }
    }

    private static void endsOnTheMap(boolean isOnTheMap, String what, Consumer<SignTiles> call) {
        if (isOnTheMap) {
            Check.accepted(what, Maps::rich, call);
        } else {
            Check.noIndex(what, Maps::rich, call);
        }
    }

    private static void promise2HasRoomForForty() {
        Check.sentence(2, "if there are 40");
        SignTiles map = new SignTiles();
        for (int i = 0; i < 40; i++) {
            Check.same("its number", map.addWay(0, 0, 0, 1, SignTiles.LANE), i);
        }
        Check.noState("addWay to forty", Maps::full, full -> full.addWay(0, 0, 0, 1, SignTiles.LANE));
        Check.noState("addWay down to forty", Maps::full, full -> full.addWay(5, 16, 0, -16, SignTiles.HIGHWAY));
        Check.sentence(2, "Ways are numbered from 0, at most 40");
        SignTiles rich = Maps.rich();
        Check.thrown("addWay of no length", IllegalArgumentException.class, rich, x -> x.addWay(0, 0, 0, 0, 0));
        Check.same("number after a refused one", rich.addWay(0, 0, 0, 1, SignTiles.LANE), 2);
    }

    private static void promise2ThrowsInOrder() {
        Check.sentence(2, "the one that is listed first is thrown");
        for (Supplier<SignTiles> setUp : List.<Supplier<SignTiles>>of(Maps::rich, Maps::full)) {
            Check.noIndex("no editor, no length", setUp, map -> map.addWay(6, 0, 0, 0, 0));
            Check.noIndex("no editor, no kind", setUp, map -> map.addWay(-1, 0, 0, 1, 4));
            Check.noIndex("no x, no length", setUp, map -> map.addWay(0, 17, 0, 17, 0));
            Check.noIndex("no y, no length, no kind", setUp, map -> map.addWay(0, 0, -1, -17, -1));
            Check.noIndex("no end to the right, no kind", setUp, map -> map.addWay(0, 1, 0, 16, 4));
            Check.noIndex("no end downwards, no kind", setUp, map -> map.addWay(0, 0, 1, -16, -1));
            Check.noArgument("no length, no kind", setUp, map -> map.addWay(0, 0, 0, 0, 4));
            Check.noArgument("no length to the right", setUp, map -> map.addWay(0, 16, 16, 17, 0));
            Check.noArgument("no length downwards", setUp, map -> map.addWay(0, 16, 16, -17, 0));
            Check.noArgument("no kind", setUp, map -> map.addWay(0, 0, 0, 16, 4));
        }
        Check.noIndex("no editor, forty ways", Maps::full, map -> map.addWay(6, 0, 0, 1, 0));
        Check.noIndex("no x, forty ways", Maps::full, map -> map.addWay(0, 17, 0, -1, 0));
        Check.noIndex("no y, forty ways", Maps::full, map -> map.addWay(0, 0, 17, 1, 0));
        Check.noIndex("no end to the right, forty ways", Maps::full, map -> map.addWay(0, 16, 16, 1, 0));
        Check.noIndex("no end downwards, forty ways", Maps::full, map -> map.addWay(0, 16, 16, -1, 0));
    }

    private static void promise3HasRanges() {
        Check.sentence(3, "0 to 5");
        Check.indexRange(Maps::rich, 0, 5, (map, editor) -> map.edit(editor, 0, SignTiles.ROAD, SignTiles.BOTH));
        Check.sentence(3, "if there is no such editor or way");
        Check.wayRange((map, way) -> map.edit(0, way, SignTiles.ROAD, SignTiles.AGAINST));
        Check.sentence(3, "LANE, STREET, ROAD or HIGHWAY");
        Check.argumentRange(Maps::rich, 0, 3, (map, kind) -> map.edit(0, 0, kind, SignTiles.AGAINST));
        Check.sentence(3, "BOTH, ALONG or AGAINST");
        Check.argumentRange(Maps::rich, 0, 2, (map, direction) -> map.edit(0, 0, SignTiles.STREET, direction));
    }

    private static void promise3ComparesTrustWithGuard() {
        Check.sentence(3, "if the editor's trust is at least its guard, there is a new version.");
        for (int trust = 0; trust <= 100; trust += 5) {
            for (int guard = Math.max(0, trust - 1); guard <= Math.min(100, trust + 1); guard++) {
                edits(trust, guard);
            }
        }
    }

    private static void edits(int trust, int guard) {
        SignTiles map = Maps.withTrusts(trust, 50);
        map.guard(1, guard);
        int clock = map.clock();
        boolean isEnough = trust >= guard;
        String what = "trust " + trust + " and guard " + guard + ", ";
        Check.same(what + "edit", map.edit(2, 1, SignTiles.ROAD, SignTiles.AGAINST), isEnough);
        Check.same(what + "versions", map.versions(1), isEnough ? 2 : 1);
        Check.same(what + "version", map.version(1, isEnough ? 1 : 0), isEnough ? 223 : 1);
        Check.same(what + "waiting", map.waiting(1), isEnough ? SignTiles.NONE : 223);
        Check.same(what + "clock", map.clock(), isEnough ? clock + 1 : clock);
        Check.same(what + "trust", map.trust(2), trust);
    }

    private static void promise3WaitsInPlace() {
        Check.sentence(3, "Otherwise the change waits, in place of one that waits for this way.");
        SignTiles map = Maps.waits(2);
        map.guard(1, 51);
        Check.same("edit", map.edit(4, 1, SignTiles.STREET, SignTiles.ALONG), false);
        Check.same("waiting", map.waiting(1), 115);
        Check.same("what waits for another way", map.waiting(0), 204);
        Check.same("edit to what waits", map.edit(0, 1, SignTiles.STREET, SignTiles.ALONG), false);
        Check.same("waiting, by the later editor", map.waiting(1), 111);
        Check.same("the trust of who wanted the earlier one", map.trust(3), 50);
        Check.same("versions", map.versions(1), 1);
    }

    private static void promise3RefusesWhatItIs() {
        Check.sentence(3, "if the way has this kind and direction");
        for (int from = 0; from < 12; from++) {
            for (int to = 0; to < 12; to++) {
                editsFromTo(from / 3, from % 3, to / 3, to % 3);
            }
        }
    }

    private static void editsFromTo(int kind, int direction, int newKind, int newDirection) {
        Supplier<SignTiles> setUp = () -> twoWaysThatAre(kind, direction);
        String what = "edit of " + kind + ", " + direction + " to " + newKind + ", " + newDirection;
        if (kind == newKind && direction == newDirection) {
            Check.noState(what, setUp, map -> map.edit(0, 0, newKind, newDirection));
            Check.noState(what + " below its guard", setUp, map -> map.edit(1, 1, newKind, newDirection));
        } else {
            Check.same(what, setUp.get().edit(0, 0, newKind, newDirection), true);
            Check.same(what + " below its guard", setUp.get().edit(1, 1, newKind, newDirection), false);
        }
    }

    /** Way 1 has a guard of 100, and a change that waits. */
    private static SignTiles twoWaysThatAre(int kind, int direction) {
        SignTiles map = new SignTiles();
        for (int way = 0; way < 2; way++) {
            map.addWay(0, 0, 0, 1, kind);
            if (direction != SignTiles.BOTH) {
                map.edit(0, way, kind, direction);
            }
        }
        map.guard(1, 100);
        map.edit(2, 1, (kind + 1) % 4, direction);
        return map;
    }

    private static void promise3ThrowsInOrder() {
        Check.sentence(3, "the one that is listed first is thrown");
        Check.noIndex("no editor, no kind", Maps::rich, map -> map.edit(6, 0, 4, 0));
        Check.noIndex("no editor, no direction", Maps::rich, map -> map.edit(-1, 0, 0, 3));
        Check.noIndex("no editor, what it is", Maps::rich, map -> map.edit(6, 0, SignTiles.LANE, SignTiles.ALONG));
        Check.noIndex("no way, no kind", Maps::rich, map -> map.edit(0, 2, -1, 0));
        Check.noIndex("no way, no direction", Maps::rich, map -> map.edit(0, -1, 0, -1));
        Check.noArgument("its kind, no direction", Maps::rich, map -> map.edit(0, 0, SignTiles.LANE, 3));
        Check.noArgument("no kind, its direction", Maps::rich, map -> map.edit(0, 0, 4, SignTiles.ALONG));
        Check.noArgument("no kind, below the guard", Maps::rich, map -> map.edit(0, 1, 4, SignTiles.ALONG));
    }

    private static void promise4HasRanges() {
        for (boolean isRefused : CONFIRMED_AND_REFUSED) {
            Check.sentence(4, "0 to 5: who does that");
            Check.indexRange(WayEdgeTest::waitsOfTwoEditors, 0, 5,
                    (map, editor) -> map.judge(editor, editor == 3 ? 1 : 0, isRefused));
            Check.sentence(4, "if there is no such editor or way");
            Check.indexRange(() -> Maps.waits(40), 0, 39, (map, way) -> map.judge(0, way, isRefused));
            Check.noIndex("judge of way 2 of two", () -> Maps.waits(2), map -> map.judge(0, 2, isRefused));
            Check.noIndex("judge without ways", SignTiles::new, map -> map.judge(0, 0, isRefused));
        }
    }

    /** A change of editor 3 waits for way 0, and one of editor 0 for way 1. */
    private static SignTiles waitsOfTwoEditors() {
        SignTiles map = Maps.waits(2);
        map.guard(1, 51);
        map.edit(0, 1, SignTiles.ROAD, SignTiles.ALONG);
        map.guard(1, 0);
        return map;
    }

    private static void promise4NeedsAChangeAndAnotherEditor() {
        for (boolean isRefused : CONFIRMED_AND_REFUSED) {
            Check.sentence(4, "if no change waits for it, this editor wanted it, or has not enough trust");
            Check.noState("judge of a new way", Maps::full, map -> map.judge(1, 39, isRefused));
            Check.noState("judge of what was refused", () -> judgedOnce(true), map -> map.judge(1, 0, isRefused));
            Check.noState("judge of what was confirmed", () -> judgedOnce(false), map -> map.judge(1, 0, isRefused));
            Check.noState("judge of one's own", () -> waitsAt(0), map -> map.judge(3, 0, isRefused));
            Check.noState("judge of one's own at the guard", () -> waitsAt(50), map -> map.judge(3, 0, isRefused));
            Check.noState("judge just below the guard", () -> waitsAt(51), map -> map.judge(1, 0, isRefused));
            Check.accepted("judge at the guard", () -> waitsAt(50), map -> map.judge(1, 0, isRefused));
            Check.noState("judge by who wants it now", WayEdgeTest::replaced, map -> map.judge(4, 0, isRefused));
            Check.accepted("judge by who wanted it earlier", WayEdgeTest::replaced, map -> map.judge(3, 0, isRefused));
        }
    }

    private static SignTiles judgedOnce(boolean isRefused) {
        SignTiles map = Maps.waits(2);
        map.judge(2, 0, isRefused);
        return map;
    }

    private static SignTiles waitsAt(int guard) {
        SignTiles map = Maps.waits(1);
        map.guard(0, guard);
        return map;
    }

    /** What editor 3 wanted is replaced by what editor 4 wants. */
    private static SignTiles replaced() {
        SignTiles map = waitsAt(51);
        map.edit(4, 0, SignTiles.HIGHWAY, SignTiles.AGAINST);
        map.guard(0, 0);
        return map;
    }

    private static void promise4ComparesTrustWithGuard() {
        Check.sentence(4, "another editor can do so whose trust is at least the guard");
        for (int trust = 0; trust <= 100; trust += 5) {
            for (int guard = Math.max(0, trust - 1); guard <= Math.min(100, trust + 1); guard++) {
                judges(trust, guard, false);
                judges(trust, guard, true);
            }
        }
    }

    private static void judges(int trust, int guard, boolean isRefused) {
        Supplier<SignTiles> setUp = () -> waitsWithTrust(trust, guard);
        String what = "trust " + trust + " and guard " + guard + ", judge " + (isRefused ? "to refuse" : "to confirm");
        if (trust < guard) {
            Check.noState(what, setUp, map -> map.judge(2, 1, isRefused));
            return;
        }
        SignTiles map = setUp.get();
        Check.same(what, map.judge(2, 1, isRefused), isRefused ? 45 : 55);
        Check.same(what + ", versions", map.versions(1), isRefused ? 1 : 2);
        Check.same(what + ", version", map.version(1, isRefused ? 0 : 1), isRefused ? 1 : 224);
        Check.same(what + ", waiting", map.waiting(1), SignTiles.NONE);
        Check.same(what + ", who judges", map.trust(2), trust);
    }

    /** Editor 2 has this trust; a change of editor 3 waits for way 1. */
    private static SignTiles waitsWithTrust(int trust, int guard) {
        SignTiles map = Maps.withTrusts(trust, 50);
        map.guard(1, 100);
        map.edit(3, 1, SignTiles.ROAD, SignTiles.AGAINST);
        map.guard(1, guard);
        return map;
    }

    private static void promise4KeepsTrustInItsRange() {
        Check.sentence(4, "it stays within that, whatever is added or taken off");
        SignTiles grown = Maps.waits(13);
        SignTiles fallen = Maps.waits(13);
        for (int i = 0; i < 12; i++) {
            int most = Math.min(100, 55 + 5 * i);
            int least = Math.max(0, 45 - 5 * i);
            Check.same("judge that confirms", grown.judge(1, i, false), most);
            Check.same("trust that grows", grown.trust(3), most);
            Check.same("judge that refuses", fallen.judge(1, i, true), least);
            Check.same("trust that falls", fallen.trust(3), least);
        }
        Check.same("judge that refuses at 100", grown.judge(1, 12, true), 95);
        Check.same("judge that confirms at 0", fallen.judge(1, 12, false), 5);
    }

    private static void promise4ThrowsInOrder() {
        Check.sentence(4, "the one that is listed first is thrown");
        Check.noIndex("no editor, nothing waits", Maps::full, map -> map.judge(6, 0, false));
        Check.noIndex("no editor, below the guard", Maps::rich, map -> map.judge(-1, 1, true));
        Check.noIndex("no way, by who wants one", Maps::rich, map -> map.judge(2, 2, false));
        Check.noIndex("no editor, no way", Maps::rich, map -> map.judge(6, 2, false));
    }

    private static void promise5HasRanges() {
        for (int editor = 0; editor < 6; editor++) {
            Check.sentence(5, "0 to 5");
            int chosen = editor;
            int maker = editor == 2 ? 3 : 2;
            Supplier<SignTiles> setUp = () -> editedBy(maker, maker == 2 ? 0 : 50, maker == 3 ? 0 : 50);
            Check.accepted("revert by editor " + editor, setUp, map -> map.revert(chosen, 1));
            Check.outside(IndexOutOfBoundsException.class, setUp, 0, 5, (map, wrong) -> map.revert(wrong, 1));
            Check.sentence(5, "if there is no such editor or way");
            Check.outside(IndexOutOfBoundsException.class, setUp, 0, 1, (map, wrong) -> map.revert(chosen, wrong));
        }
        Check.noIndex("revert without ways", SignTiles::new, map -> map.revert(0, 0));
        Check.noIndex("revert of way 40 of forty", Maps::full, map -> map.revert(0, 40));
    }

    /** Way 1 has a second version, of an editor. */
    private static SignTiles editedBy(int maker, int trustOf2, int trustOf3) {
        SignTiles map = Maps.withTrusts(trustOf2, trustOf3);
        map.edit(maker, 1, SignTiles.ROAD, SignTiles.ALONG);
        return map;
    }

    private static void promise5ComparesTrusts() {
        Check.sentence(5, "another editor whose trust is greater than theirs can do so");
        for (int trust = 0; trust <= 100; trust += 5) {
            for (int other = Math.max(0, trust - 5); other <= Math.min(100, trust + 5); other += 5) {
                reverts(trust, other);
            }
            int theirs = trust;
            Supplier<SignTiles> own = () -> editedBy(2, theirs, 50);
            Check.noState("revert of one's own with " + trust, own, map -> map.revert(2, 1));
        }
    }

    private static void reverts(int theirs, int trust) {
        Supplier<SignTiles> setUp = () -> editedBy(2, theirs, trust);
        String what = "revert with " + trust + " against " + theirs;
        if (trust <= theirs) {
            Check.noState(what, setUp, map -> map.revert(3, 1));
            return;
        }
        SignTiles map = setUp.get();
        int clock = map.clock();
        map.guard(1, 100);
        Check.same(what, map.revert(3, 1), Math.max(0, theirs - 10));
        Check.same(what + ", their trust", map.trust(2), Math.max(0, theirs - 10));
        Check.same(what + ", one's own trust", map.trust(3), trust);
        Check.same(what + ", version", map.version(1, 2), 4);
        Check.same(what + ", stamp", map.stampOf(1, 2), clock + 1);
    }

    private static void promise5NeedsAnEditorsVersion() {
        Check.sentence(5, "if its latest version is not its first one, and was made by an editor");
        Supplier<SignTiles> first = () -> Maps.withTrusts(100, 0);
        Check.noState("revert of a first version of another editor", first, map -> map.revert(2, 1));
        Supplier<SignTiles> firstOfLess = WayEdgeTest::firstVersionOfLessTrust;
        Check.noState("revert of a first version of less trust", firstOfLess, map -> map.revert(2, 2));
        Supplier<SignTiles> sign = () -> agreed(true);
        Check.noState("revert of what signs made", sign, map -> map.revert(2, 1));
        Check.noState("revert of what signs made, with no trust", () -> agreed(false), map -> map.revert(2, 1));
        Check.same("revert of an edit after the signs", editedAfterSigns().revert(2, 1), 40);
    }

    private static SignTiles firstVersionOfLessTrust() {
        SignTiles map = Maps.withTrusts(100, 0);
        map.addWay(3, 0, 0, 1, SignTiles.LANE);
        return map;
    }

    /** Signs made way 1 a lane AGAINST. */
    private static SignTiles agreed(boolean isTrusted) {
        SignTiles map = Maps.withTrusts(isTrusted ? 100 : 0, 50);
        map.drive(0, 0, 4);
        map.drive(1, 4, 4);
        map.see(0, 1, SignTiles.AGAINST, 1);
        map.see(1, 1, SignTiles.AGAINST, 1);
        return map;
    }

    private static SignTiles editedAfterSigns() {
        SignTiles map = agreed(true);
        map.edit(4, 1, SignTiles.HIGHWAY, SignTiles.ALONG);
        return map;
    }

    private static void promise5GoesBackByOne() {
        Check.sentence(5, "there is a new version with the kind and direction of the one ahead of the latest one");
        SignTiles signs = editedAfterSigns();
        signs.revert(2, 1);
        Check.same("version that signs had made", signs.version(1, 3), 23);
        SignTiles map = Maps.withTrusts(60, 70);
        map.edit(0, 1, SignTiles.STREET, SignTiles.ALONG);
        map.edit(1, 1, SignTiles.HIGHWAY, SignTiles.AGAINST);
        Check.same("revert", map.revert(2, 1), 40);
        Check.same("version of the one ahead", map.version(1, 3), 113);
        Check.same("revert of a revert", map.revert(3, 1), 50);
        Check.same("version of what was reverted", map.version(1, 4), 324);
        Check.same("versions", map.versions(1), 5);
        Check.same("the first one stays", map.version(1, 0), 1);
        SignTiles second = editedBy(0, 55, 50);
        Check.same("revert of a second version", second.revert(2, 1), 40);
        Check.same("version as the first one", second.version(1, 2), 3);
    }

    private static void promise5ThrowsInOrder() {
        Check.sentence(5, "the one that is listed first is thrown");
        Check.noIndex("no editor, a first version", Maps::full, map -> map.revert(6, 0));
        Check.noIndex("no editor, below all", Maps::full, map -> map.revert(-1, 39));
        Check.noIndex("no editor, no way", Maps::rich, map -> map.revert(6, 2));
    }

    private static void promise6HasRanges() {
        Check.sentence(6, "0 to 100");
        Check.argumentRange(Maps::rich, 0, 100, (map, guard) -> map.guard(1, guard));
        SignTiles map = Maps.rich();
        int before = 60;
        for (int guard = 0; guard <= 100; guard++) {
            Check.same("the guard before " + guard, map.guard(1, guard), before);
            before = guard;
        }
        Check.same("what waits", map.waiting(1), 223);
        Check.sentence(6, "a guard, 0 to 100, at first 0");
        Check.same("the guard at first", Maps.full().guard(39, 100), 0);
        Check.sentence(6, "if there is no such way");
        Check.wayRange((x, way) -> x.guard(way, 50));
    }

    private static void promise6ThrowsInOrder() {
        Check.sentence(6, "the one that is listed first is thrown");
        Check.noIndex("no way, no guard", Maps::rich, map -> map.guard(2, 101));
        Check.noIndex("no way below, no guard", Maps::rich, map -> map.guard(-1, -1));
        Check.noIndex("no ways at all, no guard", SignTiles::new, map -> map.guard(0, -1));
    }

    private static void promise7HasRanges() {
        Check.sentence(7, "if there is no such editor");
        Check.indexRange(Maps::rich, 0, 5, SignTiles::trust);
        for (int editor = 0; editor < 6; editor++) {
            int asked = editor;
            Check.changesNothing("trust", Maps::rich, map -> map.trust(asked));
        }
        Check.sentence(7, "an editor has a trust, 0 to 100");
        Check.same("the most trust", Maps.withTrusts(100, 0).trust(2), 100);
        Check.same("the least trust", Maps.withTrusts(100, 0).trust(3), 0);
        Check.same("another one's trust", Maps.withTrusts(100, 0).trust(1), 50);
    }

    private static void promise8CountsWays() {
        Check.sentence(8, "Returns how many ways there are.");
        Check.same("ways at first", new SignTiles().ways(), 0);
        SignTiles map = new SignTiles();
        for (int count = 1; count <= 40; count++) {
            map.addWay(0, 0, 0, 1, SignTiles.LANE);
            Check.same("ways", map.ways(), count);
        }
        Check.changesNothing("ways", Maps::rich, SignTiles::ways);
    }

    private static void promise9CountsVersions() {
        Check.sentence(9, "if there is no such way");
        Check.wayRange(SignTiles::versions);
        Check.changesNothing("versions", Maps::rich, map -> map.versions(0));
        Check.sentence(9, "Returns how many versions a way has.");
        SignTiles map = new SignTiles();
        map.addWay(0, 0, 0, 1, SignTiles.LANE);
        for (int count = 1; count <= 200; count++) {
            Check.same("versions", map.versions(0), count);
            map.edit(0, 0, count % 4, SignTiles.BOTH);
        }
    }

    private static void promise10CodesVersions() {
        Check.sentence(10, "if there is no such way or version");
        Check.wayRange((map, way) -> map.version(way, 0));
        Check.indexRange(Maps::rich, 0, 1, (map, version) -> map.version(0, version));
        Check.indexRange(Maps::rich, 0, 0, (map, version) -> map.version(1, version));
        Check.changesNothing("version", Maps::rich, map -> map.version(0, 1));
        Check.sentence(10, "and the editor who has made it and 1 (0 for no editor), added");
        for (int kind = SignTiles.LANE; kind <= SignTiles.HIGHWAY; kind++) {
            for (int direction = SignTiles.ALONG; direction <= SignTiles.AGAINST; direction++) {
                for (int editor = 0; editor < 6; editor++) {
                    SignTiles map = Maps.signed(kind, false);
                    map.edit(editor, 0, kind, direction);
                    Check.same("version by " + editor, map.version(0, 1), 100 * kind + 10 * direction + editor + 1);
                }
            }
            SignTiles map = Maps.signed(kind, true);
            map.edit(0, 0, kind, SignTiles.ALONG);
            map.see(0, 0, SignTiles.BOTH, 0);
            map.see(1, 0, SignTiles.BOTH, 0);
            Check.same("version by no editor", map.version(0, 2), 100 * kind);
        }
    }

    private static void promise11TellsStamps() {
        Check.sentence(11, "if there is no such way or version");
        Check.wayRange((map, way) -> map.stampOf(way, 0));
        Check.indexRange(Maps::rich, 0, 1, (map, version) -> map.stampOf(0, version));
        Check.indexRange(Maps::rich, 0, 0, (map, version) -> map.stampOf(1, version));
        Check.changesNothing("stampOf", Maps::rich, map -> map.stampOf(0, 1));
        Check.sentence(11, "makes it grow by 1, and has what it is then as its stamp");
        SignTiles full = Maps.full();
        for (int way = 0; way < 40; way++) {
            Check.same("stamp of a first version", full.stampOf(way, 0), way + 1);
        }
        for (int version = 1; version < 200; version++) {
            full.edit(0, version % 40, SignTiles.ROAD, 1 + version / 40 % 2);
            Check.same("stamp of a later version", full.stampOf(version % 40, 1 + (version - 1) / 40), 40 + version);
        }
    }

    private static void promise12TellsWhatWaits() {
        Check.sentence(12, "if there is no such way");
        Check.wayRange(SignTiles::waiting);
        Check.changesNothing("waiting", Maps::rich, map -> map.waiting(1));
        Check.sentence(12, "Returns as version() does; NONE.");
        Check.same("waiting of a new way", Maps.full().waiting(39), SignTiles.NONE);
        for (int kind = SignTiles.LANE; kind <= SignTiles.HIGHWAY; kind++) {
            for (int direction = SignTiles.ALONG; direction <= SignTiles.AGAINST; direction++) {
                for (int editor = 0; editor < 6; editor++) {
                    SignTiles map = Maps.full();
                    map.guard(kind, 100);
                    map.edit(editor, kind, kind, direction);
                    Check.same("waiting", map.waiting(kind), 100 * kind + 10 * direction + editor + 1);
                }
            }
        }
        SignTiles least = new SignTiles();
        least.addWay(0, 0, 0, 1, SignTiles.STREET);
        least.guard(0, 51);
        least.edit(0, 0, SignTiles.LANE, SignTiles.BOTH);
        Check.same("waiting, the least number", least.waiting(0), 1);
        Check.same("waiting after it was refused", judgedOnce(true).waiting(0), SignTiles.NONE);
        Check.same("waiting of another way", judgedOnce(true).waiting(1), 204);
    }

    private static void promise12ForgetsWhatWaits() {
        Check.sentence(12, "When a way gets a new version in whatever way, a change that waits for it is forgotten.");
        forgets("an edit", map -> map.edit(5, 1, SignTiles.STREET, SignTiles.BOTH));
        forgets("a confirmed change", map -> map.judge(0, 1, false));
        forgets("a revert", map -> map.revert(2, 1));
        forgets("signs that agree", map -> {
            map.see(0, 1, SignTiles.AGAINST, 0);
            map.see(1, 1, SignTiles.AGAINST, 0);
        });
        SignTiles other = waitsAfterAnEdit();
        other.edit(0, 0, SignTiles.HIGHWAY, SignTiles.BOTH);
        other.see(0, 1, SignTiles.AGAINST, 0);
        other.guard(1, 100);
        Check.same("waiting after what changes another way", other.waiting(1), 3 + 1);
    }

    private static void forgets(String what, Consumer<SignTiles> call) {
        SignTiles map = waitsAfterAnEdit();
        Check.same("waiting ahead of " + what, map.waiting(1), 3 + 1);
        call.accept(map);
        Check.same("versions after " + what, map.versions(1), 3);
        Check.same("waiting after " + what, map.waiting(1), SignTiles.NONE);
    }

    /** Way 1 has a second version, of editor 0, and a change of editor 3 waits for it, to what it was at first. */
    private static SignTiles waitsAfterAnEdit() {
        SignTiles map = Maps.withTrusts(60, 50);
        map.drive(0, 0, 4);
        map.drive(1, 4, 4);
        map.edit(0, 1, SignTiles.ROAD, SignTiles.ALONG);
        map.guard(1, 51);
        map.edit(3, 1, SignTiles.LANE, SignTiles.BOTH);
        map.guard(1, 0);
        return map;
    }

    private static void promise13CountsChanges() {
        Check.sentence(13, "each new way, and each new version of a way, makes it grow by 1");
        grows("addWay", 1, map -> map.addWay(0, 0, 0, 1, SignTiles.LANE));
        grows("edit", 1, map -> map.edit(0, 1, SignTiles.LANE, SignTiles.BOTH));
        grows("judge that confirms", 1, map -> map.judge(0, 1, false));
        grows("revert", 1, map -> map.revert(2, 1));
        grows("a sign that agrees", 1, map -> map.see(2, 1, SignTiles.AGAINST, 0));
        grows("edit that waits", 0, map -> map.edit(3, 0, SignTiles.HIGHWAY, SignTiles.BOTH));
        grows("judge that refuses", 0, map -> map.judge(0, 1, true));
        grows("guard", 0, map -> map.guard(1, 100));
        grows("draw", 0, map -> map.draw(0, 0, 0));
        grows("refresh", 0, SignTiles::refresh);
        grows("drive", 0, map -> map.drive(0, 16, 16));
        grows("a sign that does not agree", 0, map -> map.see(2, 1, SignTiles.ALONG, 0));
        grows("send", 0, map -> map.send(0));
        Check.changesNothing("clock", Maps::rich, SignTiles::clock);
    }

    private static void grows(String what, int by, Consumer<SignTiles> call) {
        SignTiles map = waitsAfterAnEdit();
        map.see(0, 1, SignTiles.AGAINST, 99);
        map.drive(2, 0, 4);
        map.guard(0, 51);
        map.draw(4, 0, 0);
        int before = map.clock();
        call.accept(map);
        Check.same("what the clock grows by with " + what, map.clock() - before, by);
    }

    private static void changesWithThe512thCall() {
        Check.sentence(2, "An object is used for at most 512 calls after it has been made");
        SignTiles added = afterCalls(511);
        Check.same("addWay as the last call", added.addWay(0, 0, 0, 1, SignTiles.LANE), 3);
        Check.same("addWay as the last of 512 changes", onlyEdited(511).addWay(0, 0, 0, 1, SignTiles.LANE), 1);
        Check.sentence(3, "An object is used for at most 512 calls after it has been made");
        Check.same("edit as the last call", afterCalls(511).edit(0, 0, SignTiles.HIGHWAY, SignTiles.BOTH), true);
        Check.same("edit as the last of 512 changes", onlyEdited(511).edit(0, 0, SignTiles.LANE, SignTiles.BOTH), true);
        SignTiles waits = afterCalls(510);
        waits.guard(0, 51);
        Check.same("edit that waits as the last call", waits.edit(0, 0, SignTiles.HIGHWAY, SignTiles.BOTH), false);
        Check.sentence(4, "An object is used for at most 512 calls after it has been made");
        Check.same("judge that confirms as the last call", afterCalls(511).judge(0, 1, false), 55);
        Check.same("judge that refuses as the last call", afterCalls(511).judge(0, 1, true), 45);
        Check.sentence(5, "An object is used for at most 512 calls after it has been made");
        Check.same("revert as the last call", revertable().revert(1, 0), 40);
        Check.sentence(10, "An object is used for at most 512 calls after it has been made");
        Check.same("version as the last call", onlyEdited(511).version(0, 510), 21);
        Check.same("stampOf as the last call", onlyEdited(511).stampOf(0, 510), 511);
        Check.same("clock as the last call", onlyEdited(511).clock(), 511);
        Check.same("pictureAnew as the last call", drawnAndEdited().pictureAnew(4, 0, 0), 31 * 17);
    }

    /** Way 0 is a lane whose other versions fill the calls; a change of editor 3, to a street, waits for way 1. */
    private static SignTiles afterCalls(int calls) {
        SignTiles map = new SignTiles();
        map.addWay(0, 0, 0, 1, SignTiles.LANE);
        map.addWay(0, 0, 0, 1, SignTiles.LANE);
        map.addWay(0, 0, 0, 1, SignTiles.LANE);
        map.guard(1, 51);
        map.edit(3, 1, SignTiles.STREET, SignTiles.BOTH);
        map.guard(1, 0);
        edits(map, calls - 6);
        return map;
    }

    /** Editor 1 has a trust of 55, and way 0 a latest version of editor 0. */
    private static SignTiles revertable() {
        SignTiles map = new SignTiles();
        map.addWay(0, 0, 0, 1, SignTiles.LANE);
        map.guard(0, 51);
        map.edit(1, 0, SignTiles.STREET, SignTiles.BOTH);
        map.guard(0, 0);
        map.judge(0, 0, false);
        edits(map, 506);
        return map;
    }

    private static SignTiles onlyEdited(int calls) {
        SignTiles map = new SignTiles();
        map.addWay(0, 0, 0, 1, SignTiles.STREET);
        edits(map, calls - 1);
        return map;
    }

    private static SignTiles drawnAndEdited() {
        SignTiles map = new SignTiles();
        map.addWay(0, 0, 0, 1, SignTiles.LANE);
        map.draw(4, 0, 0);
        edits(map, 509);
        return map;
    }

    private static void edits(SignTiles map, int count) {
        for (int i = 0; i < count; i++) {
            map.edit(0, 0, SignTiles.LANE, i % 2 == 0 ? SignTiles.ALONG : SignTiles.AGAINST);
        }
    }
}
