import java.util.function.Consumer;
import java.util.function.Supplier;

/** The edges that the document names, sentence by sentence: promises 21 to 27. */
public final class CarEdgeTest {
    private static final String FIRST_IS_THROWN = "the one that is listed first is thrown";

    private CarEdgeTest() {
    }

    public static void main(String[] args) {
        promise21HasRanges();
        promise21TellsDistances();
        promise22HasRanges();
        promise22SeesAtBeginAndEnd();
        promise22TakesGreaterDoubtsAway();
        promise22TakesAnEarlierOneAway();
        promise22NeedsTwoCars();
        promise22MultipliesDoubts();
        promise22NeedsAnotherDirection();
        promise22TakesAllAway();
        promise22MakesAVersionByNoEditor();
        promise22ThrowsInOrder();
        promise22SeesWithThe512thCall();
        promise23HasARange();
        promise23CountsNoneToNine();
        promise23KeepsThemOverEdits();
        promise24HasARange();
        promise24TellsNoneLeastAndMost();
        promise24LooksAtOtherDirections();
        promise25HasARange();
        promise25HasNoneOrTheDearest();
        promise25RoundsDown();
        promise26HasARangeAndNeedsATarget();
        promise26GoesToTheNearerOne();
        promise27HasARange();
        promise27TellsEachCrossing();
        Check.namedAll(21, 27);
        Check.close("CarEdgeTest");
    }

    private static void promise21HasRanges() {
        Check.sentence(21, "0 to 2");
        Check.indexRange(Maps::rich, 0, 2, (map, car) -> map.drive(car, 1, 1));
        Check.sentence(21, "0 to 16");
        Check.indexRange(Maps::rich, 0, 16, (map, x) -> map.drive(0, x, 0));
        Check.indexRange(Maps::rich, 0, 16, (map, y) -> map.drive(0, 0, y));
        Check.sentence(21, "if there is no such car or crossing");
        Check.noIndex("drive of no car to no crossing", Maps::rich, map -> map.drive(3, 17, -1));
    }

    private static void promise21TellsDistances() {
        Check.sentence(21, "Returns the distance from where it was.");
        for (int car = 0; car < 3; car++) {
            SignTiles map = new SignTiles();
            Check.same("drive nowhere", map.drive(car, 0, 0), 0);
            Check.same("drive to the last crossing", map.drive(car, 16, 16), 32);
            Check.same("drive back along x", map.drive(car, 0, 16), 16);
            Check.same("drive back along y", map.drive(car, 0, 0), 16);
            Check.same("drive by 1", map.drive(car, 1, 0), 1);
            Check.same("drive by 1 and 1", map.drive(car, 0, 1), 2);
            Check.same("other cars", map.carAt((car + 1) % 3) + map.carAt((car + 2) % 3), 0);
        }
    }

    private static void promise22HasRanges() {
        Check.sentence(22, "0 to 2");
        Check.indexRange(Maps::street, 0, 2, (map, car) -> map.see(car, 0, SignTiles.ALONG, 50));
        Check.sentence(22, "if there is no such car or way");
        Check.indexRange(Maps::full, 0, 39, (map, way) -> map.see(0, way, SignTiles.ALONG, 50));
        Check.indexRange(Maps::street, 0, 0, (map, way) -> map.see(0, way, SignTiles.ALONG, 50));
        Check.noIndex("see without ways", SignTiles::new, map -> map.see(0, 0, SignTiles.ALONG, 50));
        Check.sentence(22, "BOTH, ALONG or AGAINST");
        Check.argumentRange(Maps::street, 0, 2, (map, direction) -> map.see(0, 0, direction, 50));
        Check.sentence(22, "0 to 99");
        Check.argumentRange(Maps::street, 0, 99, (map, doubt) -> map.see(0, 0, SignTiles.ALONG, doubt));
        Check.argumentRange(CarEdgeTest::seenByAll, 0, 99, (map, doubt) -> map.see(1, 0, SignTiles.BOTH, doubt));
    }

    /** Each car has seen each direction, with a doubt of 99. */
    private static SignTiles seenByAll() {
        SignTiles map = Maps.street();
        for (int car = 0; car < 3; car++) {
            for (int direction = SignTiles.BOTH; direction <= SignTiles.AGAINST; direction++) {
                map.see(car, 0, direction, 99);
            }
        }
        return map;
    }

    private static void promise22SeesAtBeginAndEnd() {
        Check.sentence(22, "if the car is neither at its begin nor at its end");
        for (int x = 0; x <= 16; x++) {
            for (int y = 0; y <= 16; y++) {
                sees(false, x, y, y == 2 && (x == 2 || x == 6));
                sees(true, x, y, x == 2 && (y == 2 || y == 6));
            }
        }
    }

    private static void sees(boolean isDownwards, int x, int y, boolean isAtIt) {
        Supplier<SignTiles> setUp = () -> {
            SignTiles map = Maps.signed(SignTiles.LANE, isDownwards);
            map.see(0, 0, SignTiles.BOTH, 50);
            map.drive(2, x, y);
            return map;
        };
        String what = "see at " + x + ", " + y;
        if (isAtIt) {
            SignTiles map = setUp.get();
            Check.same(what, map.see(2, 0, SignTiles.ALONG, 0), false);
            Check.same("sightings after " + what, map.sightings(0), 1);
            Check.same("dear after " + what, map.dear(0), 100);
        } else {
            Check.noState(what, setUp, map -> map.see(2, 0, SignTiles.ALONG, 0));
        }
    }

    private static void promise22TakesGreaterDoubtsAway() {
        Check.sentence(22, "that tell another direction, and have a greater doubt, are taken away");
        for (int doubt = 0; doubt <= 99; doubt++) {
            keeps(doubt, doubt, 2);
            if (doubt < 99) {
                keeps(doubt + 1, doubt, 1);
                keeps(doubt, doubt + 1, 2);
            }
        }
        SignTiles all = seenByAll();
        all.see(0, 0, SignTiles.ALONG, 99);
        Check.same("sightings after as great a doubt", all.sightings(0), 9);
        all.see(0, 0, SignTiles.BOTH, 98);
        Check.same("sightings after a lesser doubt", all.sightings(0), 3);
        SignTiles two = Maps.street();
        two.addWay(0, 2, 2, 1, SignTiles.STREET);
        two.see(0, 1, SignTiles.ALONG, 99);
        two.see(0, 0, SignTiles.AGAINST, 0);
        Check.same("sightings of another way", two.sightings(1), 1);
    }

    /** By one car and by two, and with either direction first. */
    private static void keeps(int earlier, int later, int due) {
        for (int car = 0; car < 2; car++) {
            for (int direction = SignTiles.BOTH; direction <= SignTiles.AGAINST; direction++) {
                SignTiles map = Maps.street();
                map.see(0, 0, direction, earlier);
                map.see(car, 0, (direction + 1) % 3, later);
                Check.same("sightings after doubts of " + earlier + " and " + later, map.sightings(0), due);
            }
        }
    }

    private static void promise22TakesAnEarlierOneAway() {
        Check.sentence(22, "and so is an earlier one of the same car that tells the same direction");
        for (int first = 0; first <= 99; first += 33) {
            for (int second = 0; second <= 99; second += 33) {
                SignTiles map = Maps.street();
                map.see(0, 0, SignTiles.ALONG, first);
                Check.same("see again", map.see(0, 0, SignTiles.ALONG, second), false);
                Check.same("sightings of the same car", map.sightings(0), 1);
                Check.same("dear by the later one", map.dear(0), (100 - second) * 2);
                map.see(2, 0, SignTiles.ALONG, 99);
                Check.same("sightings of another car", map.sightings(0), second * 99 / 100 <= 20 ? 0 : 2);
            }
        }
    }

    private static void promise22NeedsTwoCars() {
        Check.sentence(22, "and there are two sightings of it that tell the seen one, by different cars");
        for (int car = 0; car < 3; car++) {
            for (int other = 0; other < 3; other++) {
                for (int direction = SignTiles.ALONG; direction <= SignTiles.AGAINST; direction++) {
                    SignTiles map = Maps.street();
                    Check.same("see first", map.see(car, 0, direction, 0), false);
                    Check.same("see by " + car + " and " + other, map.see(other, 0, direction, 0), car != other);
                    SignTiles apart = Maps.street();
                    apart.see(car, 0, SignTiles.BOTH, 0);
                    Check.same("see another direction", apart.see(other, 0, direction, 0), false);
                }
            }
        }
        SignTiles earlier = Maps.street();
        earlier.edit(0, 0, SignTiles.STREET, SignTiles.ALONG);
        earlier.see(0, 0, SignTiles.ALONG, 45);
        earlier.see(1, 0, SignTiles.ALONG, 46);
        earlier.edit(0, 0, SignTiles.STREET, SignTiles.BOTH);
        Check.same("see when two others agree", earlier.see(2, 0, SignTiles.ALONG, 99), true);
    }

    private static void promise22MultipliesDoubts() {
        Check.sentence(22, "whose doubts multiplied, and divided by 100, rounded down, are 20 or less");
        for (int first = 0; first <= 99; first++) {
            for (int second = 0; second <= 99; second++) {
                SignTiles map = Maps.street();
                map.see(0, 0, SignTiles.AGAINST, first);
                boolean isDue = first * second < 2100;
                Check.same("see " + first + " and " + second, map.see(1, 0, SignTiles.AGAINST, second), isDue);
            }
        }
    }

    private static void promise22NeedsAnotherDirection() {
        Check.sentence(22, "Then, if the way has another direction");
        for (int direction = SignTiles.BOTH; direction <= SignTiles.AGAINST; direction++) {
            for (int seen = SignTiles.BOTH; seen <= SignTiles.AGAINST; seen++) {
                SignTiles map = Maps.street();
                if (direction != SignTiles.BOTH) {
                    map.edit(0, 0, SignTiles.STREET, direction);
                }
                int clock = map.clock();
                boolean isAnother = seen != direction;
                map.see(0, 0, seen, 0);
                String what = "see " + seen + " where it is " + direction;
                Check.same(what, map.see(1, 0, seen, 0), isAnother);
                Check.same("sightings after " + what, map.sightings(0), isAnother ? 0 : 2);
                Check.same("clock after " + what, map.clock(), isAnother ? clock + 1 : clock);
            }
        }
    }

    private static void promise22TakesAllAway() {
        Check.sentence(22, "and all sightings of the way are taken away");
        SignTiles map = Maps.street();
        map.addWay(0, 2, 2, 1, SignTiles.STREET);
        map.see(0, 1, SignTiles.ALONG, 50);
        map.see(0, 0, SignTiles.BOTH, 10);
        map.see(1, 0, SignTiles.AGAINST, 20);
        map.see(2, 0, SignTiles.ALONG, 99);
        map.see(0, 0, SignTiles.ALONG, 99);
        Check.same("sightings of each direction", map.sightings(0), 4);
        Check.same("see", map.see(1, 0, SignTiles.ALONG, 20), true);
        Check.same("sightings", map.sightings(0), 0);
        Check.same("dear", map.dear(0), 0);
        Check.same("sightings of another way", map.sightings(1), 1);
    }

    private static void promise22MakesAVersionByNoEditor() {
        Check.sentence(22, "there is a new version with this direction, made by no editor");
        for (int kind = SignTiles.LANE; kind <= SignTiles.HIGHWAY; kind++) {
            for (int direction = SignTiles.ALONG; direction <= SignTiles.AGAINST; direction++) {
                SignTiles map = Maps.signed(kind, true);
                map.guard(0, 100);
                map.see(0, 0, direction, 20);
                Check.same("see below a guard of 100", map.see(1, 0, direction, 20), true);
                Check.same("version", map.version(0, 1), 100 * kind + 10 * direction);
                Check.same("stampOf", map.stampOf(0, 1), 2);
                Check.same("trust of who made the way", map.trust(0), 50);
            }
        }
    }

    private static void promise22ThrowsInOrder() {
        Check.sentence(22, FIRST_IS_THROWN);
        Check.noIndex("no car, no direction", Maps::rich, map -> map.see(3, 0, 3, 0));
        Check.noIndex("no car, no doubt", Maps::rich, map -> map.see(-1, 0, 0, 100));
        Check.noIndex("no way, no direction", Maps::rich, map -> map.see(2, 2, -1, 0));
        Check.noIndex("no way, no doubt", Maps::rich, map -> map.see(2, -1, 0, -1));
        Check.noIndex("no way, nowhere near", Maps::rich, map -> map.see(0, 2, 0, 0));
        Check.noArgument("no direction, not there", Maps::rich, map -> map.see(0, 0, 3, 0));
        Check.noArgument("no doubt, not there", Maps::rich, map -> map.see(0, 0, 0, 100));
        Check.noArgument("no doubt below, not there", Maps::rich, map -> map.see(1, 0, 0, -1));
    }

    private static void promise22SeesWithThe512thCall() {
        Check.sentence(22, "An object is used for at most 512 calls after it has been made");
        SignTiles map = new SignTiles();
        map.addWay(0, 0, 0, 1, SignTiles.LANE);
        map.see(0, 0, SignTiles.BOTH, 0);
        map.see(1, 0, SignTiles.BOTH, 0);
        for (int call = 4; call <= 511; call++) {
            map.edit(0, 0, SignTiles.LANE, 1 + call % 2);
        }
        Check.same("see as the last call", map.see(2, 0, SignTiles.BOTH, 0), true);
    }

    private static void promise23HasARange() {
        Check.sentence(23, "if there is no such way");
        Check.wayRange(SignTiles::sightings);
        Check.changesNothing("sightings", Maps::rich, map -> map.sightings(1));
    }

    private static void promise23CountsNoneToNine() {
        Check.sentence(23, "Returns how many sightings of a way are kept.");
        Check.same("sightings of a new way", Maps.street().sightings(0), 0);
        SignTiles map = Maps.street();
        for (int i = 0; i < 9; i++) {
            map.see(i / 3, 0, i % 3, 99);
            Check.same("sightings", map.sightings(0), i + 1);
        }
        map.see(2, 0, SignTiles.AGAINST, 99);
        Check.same("sightings seen again", map.sightings(0), 9);
        map.see(2, 0, SignTiles.AGAINST, 21);
        Check.same("sightings that are left", map.sightings(0), 0);
    }

    private static void promise23KeepsThemOverEdits() {
        Check.sentence(23, "A new version with another direction, made by an editor, takes no sightings away.");
        keepsSightings("an edit", map -> map.edit(0, 1, SignTiles.LANE, SignTiles.ALONG));
        keepsSightings("a confirmed change", map -> {
            map.guard(1, 51);
            map.edit(3, 1, SignTiles.LANE, SignTiles.ALONG);
            map.guard(1, 0);
            map.judge(0, 1, false);
        });
        keepsSightings("a revert", map -> map.revert(2, 1));
    }

    private static void keepsSightings(String what, Consumer<SignTiles> call) {
        SignTiles map = Maps.withTrusts(60, 50);
        map.edit(0, 1, SignTiles.LANE, SignTiles.AGAINST);
        map.drive(0, 0, 4);
        map.drive(1, 4, 4);
        map.see(0, 1, SignTiles.BOTH, 40);
        map.see(1, 1, SignTiles.ALONG, 40);
        map.see(1, 1, SignTiles.AGAINST, 40);
        call.accept(map);
        Check.same("versions after " + what, map.versions(1), 3);
        Check.same("sightings after " + what, map.sightings(1), 3);
    }

    private static void promise24HasARange() {
        Check.sentence(24, "if there is no such way");
        Check.wayRange(SignTiles::dear);
        Check.changesNothing("dear", Maps::rich, map -> map.dear(1));
    }

    private static void promise24TellsNoneLeastAndMost() {
        for (int kind = SignTiles.LANE; kind <= SignTiles.HIGHWAY; kind++) {
            Check.sentence(24, "0 if there is none");
            SignTiles map = Maps.signed(kind, false);
            Check.same("dear of a new way", map.dear(0), 0);
            map.see(1, 0, SignTiles.BOTH, 0);
            Check.same("dear by its own direction", map.dear(0), 0);
            Check.sentence(24, "(100 less the least doubt of its sightings that tell another direction than it has)");
            for (int doubt = 0; doubt <= 99; doubt++) {
                SignTiles seen = Maps.signed(kind, false);
                seen.see(0, 0, SignTiles.AGAINST, doubt);
                Check.same("dear by " + doubt, seen.dear(0), (100 - doubt) * (kind + 1));
            }
        }
    }

    private static void promise24LooksAtOtherDirections() {
        Check.sentence(24, "the least doubt of its sightings that tell another direction than it has");
        SignTiles map = Maps.signed(SignTiles.HIGHWAY, false);
        map.see(0, 0, SignTiles.BOTH, 30);
        map.see(0, 0, SignTiles.ALONG, 99);
        map.see(1, 0, SignTiles.AGAINST, 98);
        Check.same("sightings of all directions", map.sightings(0), 2);
        Check.same("dear when it is BOTH", map.dear(0), 8);
        map.edit(0, 0, SignTiles.HIGHWAY, SignTiles.AGAINST);
        Check.same("dear when it is AGAINST", map.dear(0), 280);
        map.edit(0, 0, SignTiles.LANE, SignTiles.BOTH);
        Check.same("dear as a lane", map.dear(0), 2);
        SignTiles cars = Maps.signed(SignTiles.LANE, false);
        cars.see(2, 0, SignTiles.ALONG, 97);
        cars.see(0, 0, SignTiles.ALONG, 96);
        cars.see(1, 0, SignTiles.ALONG, 98);
        Check.same("dear by the least of three cars", cars.dear(0), 4);
    }

    private static void promise25HasARange() {
        Check.sentence(25, "if there is no such car");
        Check.indexRange(Maps::rich, 0, 2, SignTiles::target);
        Check.outside(IndexOutOfBoundsException.class, SignTiles::new, 0, 2, SignTiles::target);
        Check.changesNothing("target", Maps::rich, map -> map.target(0));
    }

    /** Two lanes, far from each other, that are dear by these numbers: from (0, 0), and from (16, 10) downwards. */
    private static SignTiles dearBy(int first, int second) {
        SignTiles map = new SignTiles();
        map.addWay(0, 0, 0, 2, SignTiles.LANE);
        map.addWay(0, 16, 10, -6, SignTiles.LANE);
        map.drive(0, 16, 16);
        if (first > 0) {
            map.see(1, 0, SignTiles.ALONG, 100 - first);
        }
        if (second > 0) {
            map.see(0, 1, SignTiles.ALONG, 100 - second);
        }
        return map;
    }

    private static void promise25HasNoneOrTheDearest() {
        Check.sentence(25, "none if all are 0");
        Check.same("target without ways", new SignTiles().target(0), SignTiles.NONE);
        Check.same("target of forty ways", Maps.full().target(2), SignTiles.NONE);
        Check.same("target of two ways", dearBy(0, 0).target(1), SignTiles.NONE);
        Check.same("target dear by the least, far away", dearBy(0, 1).target(1), 1);
        Check.same("target dear by the least, near by", dearBy(1, 0).target(1), 0);
        Check.sentence(25, "of several the lowest one");
        Check.same("target between two", between(dearBy(60, 60), 9, 5).target(2), 0);
        Check.same("target a crossing nearer to the second", between(dearBy(60, 60), 10, 5).target(2), 1);
        Check.same("target a crossing nearer to the first", between(dearBy(60, 60), 8, 5).target(2), 0);
        SignTiles forty = Maps.full();
        forty.see(0, 39, SignTiles.ALONG, 99);
        Check.same("target that is the last of forty", forty.target(0), 39);
        forty.see(0, 3, SignTiles.ALONG, 99);
        forty.see(0, 7, SignTiles.ALONG, 99);
        Check.same("target of two highways", forty.target(0), 3);
    }

    private static SignTiles between(SignTiles map, int x, int y) {
        map.drive(2, x, y);
        return map;
    }

    private static void promise25RoundsDown() {
        Check.sentence(25, "the way that is dear by the most, times 100, divided by 1 and the distance");
        // From (1, 1) it is 2 to the first lane, and 24 to the second: 100 / 3 is 33, and 2500 / 25 is 100.
        Check.same("target of 33 and 100", between(dearBy(1, 25), 1, 1).target(2), 1);
        Check.sentence(25, "rounded down; of several the lowest one");
        // From (2, 1) it is 1 and 23: 600 / 2 is 300, 7200 / 24 too, 7100 / 24 is 295, and 7300 / 24 is 304.
        Check.same("target of 300 and 300", between(dearBy(6, 72), 2, 1).target(2), 0);
        Check.same("target of 300 and 295", between(dearBy(6, 71), 2, 1).target(2), 0);
        Check.same("target of 300 and 304", between(dearBy(6, 73), 2, 1).target(2), 1);
        // From (2, 11) it is 11 and 15: 300 / 12 is 25, and 400 / 16 too.
        Check.same("target of 25 and 25", between(dearBy(3, 4), 2, 11).target(2), 0);
        // From (0, 10) it is 10 and 16: 200 / 11 is 18.18, and 300 / 17 is 17.65.
        Check.same("target of 18.18 and 17.65", between(dearBy(2, 3), 0, 10).target(2), 0);
        // From (2, 12) it is 12 and 16: 300 / 13 is 23.08, 400 / 17 is 23.53, and 500 / 17 is 29.41.
        Check.same("target of 23.08 and 23.53", between(dearBy(3, 4), 2, 12).target(2), 0);
        Check.same("target of 23.08 and 29.41", between(dearBy(3, 5), 2, 12).target(2), 1);
        // From (2, 6) it is 6 and 18: 400 / 7 is 57.14, and 1100 / 19 is 57.89; by 99 or 101 times they would differ.
        Check.same("target of 57.14 and 57.89", between(dearBy(4, 11), 2, 6).target(2), 0);
    }

    private static void promise26HasARangeAndNeedsATarget() {
        Check.sentence(26, "if there is no such car");
        Supplier<SignTiles> one = () -> dearBy(50, 0);
        Check.indexRange(one, 0, 2, SignTiles::send);
        Check.sentence(26, "if it has no target");
        Check.noState("send without ways", SignTiles::new, map -> map.send(0));
        Check.noState("send with forty ways", Maps::full, map -> map.send(2));
        Check.noState("send by signs of its direction", CarEdgeTest::seenAsItIs, map -> map.send(1));
        Check.accepted("send to what is dear by the least", () -> dearBy(0, 1), map -> map.send(1));
        Check.sentence(26, FIRST_IS_THROWN);
        Check.outside(IndexOutOfBoundsException.class, SignTiles::new, 0, 2, SignTiles::send);
        Check.outside(IndexOutOfBoundsException.class, CarEdgeTest::seenAsItIs, 0, 2, SignTiles::send);
    }

    private static SignTiles seenAsItIs() {
        SignTiles map = Maps.street();
        map.see(0, 0, SignTiles.BOTH, 0);
        return map;
    }

    private static void promise26GoesToTheNearerOne() {
        Check.sentence(26, "to its begin, if both are as near");
        goes(false, 4, 2, 202, 2);
        goes(false, 4, 0, 202, 4);
        goes(false, 5, 2, 602, 1);
        goes(false, 3, 2, 202, 1);
        goes(false, 3, 9, 202, 8);
        goes(false, 5, 9, 602, 8);
        goes(true, 2, 4, 202, 2);
        goes(true, 16, 4, 202, 16);
        goes(true, 2, 5, 206, 1);
        goes(true, 2, 3, 202, 1);
        goes(true, 9, 5, 206, 8);
        Check.sentence(26, "Returns the distance from where it was.");
        goes(false, 2, 2, 202, 0);
        goes(false, 6, 2, 602, 0);
        goes(true, 2, 6, 206, 0);
        goes(false, 16, 16, 602, 24);
        goes(true, 16, 16, 206, 24);
        goes(true, 0, 0, 202, 4);
        Check.sentence(26, "To send a car is to let it go to the nearer one of begin and end of its target");
        // From (0, 10) the lanes are 10 and 16 away: 100 / 11 is 9, and 1600 / 17 is 94.
        SignTiles map = between(dearBy(1, 16), 0, 10);
        Check.same("send to the second way", map.send(2), 16);
        Check.same("carAt after that", map.carAt(2), 1610);
        // 900 / 11 is 81, and 1000 / 17 is 58.
        SignTiles other = between(dearBy(9, 10), 0, 10);
        Check.same("send to the first way", other.send(2), 10);
        Check.same("carAt after that", other.carAt(2), 0);
    }

    /** A way from (2, 2), four long: the crossing where a car comes to from here, and how far that is. */
    private static void goes(boolean isDownwards, int x, int y, int to, int distance) {
        SignTiles map = Maps.signed(SignTiles.ROAD, isDownwards);
        map.see(0, 0, SignTiles.ALONG, 50);
        map.drive(2, x, y);
        int first = map.carAt(0);
        int second = map.carAt(1);
        Check.same("send from " + x + ", " + y, map.send(2), distance);
        Check.same("carAt after it", map.carAt(2), to);
        Check.same("carAt of the first car", map.carAt(0), first);
        Check.same("carAt of the second car", map.carAt(1), second);
        Check.same("sightings after it", map.sightings(0), 1);
    }

    private static void promise27HasARange() {
        Check.sentence(27, "if there is no such car");
        Check.indexRange(Maps::rich, 0, 2, SignTiles::carAt);
        Check.outside(IndexOutOfBoundsException.class, SignTiles::new, 0, 2, SignTiles::carAt);
        Check.changesNothing("carAt", Maps::rich, map -> map.carAt(0));
    }

    private static void promise27TellsEachCrossing() {
        Check.sentence(27, "Returns 100 times x, and y, added.");
        for (int x = 0; x <= 16; x++) {
            SignTiles map = new SignTiles();
            for (int y = 0; y <= 16; y++) {
                for (int car = 0; car < 3; car++) {
                    map.drive(car, x, y);
                    Check.same("carAt", map.carAt(car), 100 * x + y);
                }
            }
        }
    }
}
