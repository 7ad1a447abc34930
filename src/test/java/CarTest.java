import java.util.function.Supplier;

/** Promises 21 to 27: cars and signs. */
public final class CarTest {
    private static final int LOWEST = Integer.MIN_VALUE;
    private static final int HIGHEST = Integer.MAX_VALUE;

    private CarTest() {
    }

    public static void main(String[] args) {
        promise21Drives();
        promise22SeesSigns();
        promise22TakesGreaterDoubtsAway();
        promise22ReplacesTheSameCars();
        promise22MultipliesDoubts();
        promise22LooksAtAllPairs();
        promise22RefusesSigns();
        promise23CountsSightings();
        promise24TellsWhatIsDear();
        promise25ChoosesTargets();
        promise25PrefersTheLowestWay();
        promise26Sends();
        promise27TellsWhereCarsAre();
        promises21To27RefuseWhatIsNoCarOrWay();
        Check.close("CarTest");
    }

    /** A street from (2, 2) to (6, 2), and all cars at its begin or end. */
    private static SignTiles signedStreet() {
        SignTiles map = new SignTiles();
        map.addWay(0, 2, 2, 4, SignTiles.STREET);
        map.drive(0, 2, 2);
        map.drive(1, 6, 2);
        map.drive(2, 2, 2);
        return map;
    }

    private static void promise21Drives() {
        SignTiles map = new SignTiles();
        Check.same("drive to the last crossing", map.drive(2, 16, 16), 32);
        Check.same("drive left and up", map.drive(2, 3, 14), 15);
        Check.same("drive right and up", map.drive(2, 10, 4), 17);
        Check.same("drive nowhere", map.drive(2, 10, 4), 0);
        Check.same("another car stays", map.carAt(1), 0);
        Check.same("drive back", map.drive(2, 0, 0), 14);
        Supplier<SignTiles> setUp = CarTest::signedStreet;
        for (int wrong : new int[] {-1, 17, LOWEST, HIGHEST}) {
            Check.noIndex("drive to x " + wrong, setUp, x -> x.drive(0, wrong, 0));
            Check.noIndex("drive to y " + wrong, setUp, x -> x.drive(0, 0, wrong));
        }
    }

    private static void promise22SeesSigns() {
        SignTiles map = signedStreet();
        map.guard(0, 100);
        map.edit(3, 0, SignTiles.LANE, SignTiles.AGAINST);
        Check.same("see at the begin", map.see(0, 0, SignTiles.ALONG, 0), false);
        Check.same("the clock stays", map.clock(), 1);
        Check.same("see at the end, with no doubt", map.see(1, 0, SignTiles.ALONG, 99), true);
        Check.same("the new version", map.version(0, 1), 110);
        Check.same("its stamp", map.stampOf(0, 1), 2);
        Check.same("all sightings are taken away", map.sightings(0), 0);
        Check.same("what waited is forgotten", map.waiting(0), SignTiles.NONE);
        Check.same("no trust changes", map.trust(3), 50);
        Check.same("see what it has already", map.see(0, 0, SignTiles.ALONG, 0), false);
        Check.same("see what it has already, too", map.see(1, 0, SignTiles.ALONG, 0), false);
        Check.same("these sightings stay", map.sightings(0), 2);
        Check.same("the last direction", map.see(2, 0, SignTiles.AGAINST, 99), false);
    }

    private static void promise22TakesGreaterDoubtsAway() {
        SignTiles map = signedStreet();
        map.see(0, 0, SignTiles.ALONG, 60);
        map.see(1, 0, SignTiles.BOTH, 60);
        Check.same("as great a doubt stays", map.sightings(0), 2);
        map.see(2, 0, SignTiles.ALONG, 60);
        Check.same("the same direction stays", map.sightings(0), 3);
        map.see(2, 0, SignTiles.AGAINST, 59);
        Check.same("greater doubts are taken away", map.sightings(0), 1);
        map.see(2, 0, SignTiles.ALONG, 60);
        Check.same("less doubts stay", map.sightings(0), 2);
        map.see(2, 0, SignTiles.BOTH, 58);
        Check.same("one's own greater doubts, too", map.sightings(0), 1);
        map.see(1, 0, SignTiles.BOTH, 1);
        Check.same("greater doubts of the same direction stay", map.sightings(0), 2);
        for (int i = 0; i < 81; i++) {
            takesAway(i / 27, i / 9 % 3, i / 3 % 3, i % 3);
        }
    }

    private static void takesAway(int car, int direction, int laterCar, int laterDirection) {
        boolean isAnother = direction != laterDirection;
        boolean isEarlier = !isAnother && car == laterCar;
        String what = "sightings of " + car + ", " + direction + " and " + laterCar + ", " + laterDirection;
        SignTiles less = signedStreet();
        less.see(car, 0, direction, 60);
        less.see(laterCar, 0, laterDirection, 59);
        Check.same(what + " with less doubt", less.sightings(0), isAnother || isEarlier ? 1 : 2);
        SignTiles same = signedStreet();
        same.see(car, 0, direction, 60);
        same.see(laterCar, 0, laterDirection, 60);
        Check.same(what + " with the same doubt", same.sightings(0), isEarlier ? 1 : 2);
    }

    private static void promise22ReplacesTheSameCars() {
        SignTiles map = signedStreet();
        map.see(0, 0, SignTiles.ALONG, 50);
        map.see(0, 0, SignTiles.ALONG, 60);
        Check.same("one of a car and direction is kept", map.sightings(0), 1);
        Check.same("it is the later one", map.dear(0), 80);
        Check.same("a car does not agree with itself", map.see(0, 0, SignTiles.ALONG, 0), false);
        map.see(0, 0, SignTiles.ALONG, 99);
        Check.same("what it saw earlier counts no more", map.see(1, 0, SignTiles.ALONG, 22), false);
        Check.same("what it saw last counts", map.see(1, 0, SignTiles.ALONG, 21), true);
    }

    private static void promise22MultipliesDoubts() {
        int[][] doubts = {
            {20, 99, 1}, {21, 99, 1}, {22, 99, 0}, {30, 70, 0}, {30, 69, 1}, {42, 50, 0}, {41, 51, 1}, {45, 46, 1},
            {46, 46, 0}, {0, 99, 1}, {99, 0, 1}, {99, 99, 0}, {0, 0, 1}, {70, 30, 0}, {50, 42, 0}, {60, 35, 0}
        };
        for (int[] row : doubts) {
            SignTiles map = signedStreet();
            map.see(2, 0, SignTiles.AGAINST, row[0]);
            String what = "doubts of " + row[0] + " and " + row[1];
            Check.same(what, map.see(0, 0, SignTiles.AGAINST, row[1]), row[2] == 1);
            Check.same(what + ", versions", map.versions(0), 1 + row[2]);
            Check.same(what + ", sightings", map.sightings(0), row[2] == 1 ? 0 : 2);
        }
    }

    private static void promise22LooksAtAllPairs() {
        SignTiles map = signedStreet();
        map.edit(0, 0, SignTiles.STREET, SignTiles.ALONG);
        map.see(0, 0, SignTiles.ALONG, 10);
        map.see(1, 0, SignTiles.ALONG, 10);
        map.edit(0, 0, SignTiles.STREET, SignTiles.AGAINST);
        Check.same("an edit takes no sightings away", map.sightings(0), 2);
        Check.same("an edit is no sign", map.versions(0), 3);
        Check.same("two earlier ones agree", map.see(2, 0, SignTiles.ALONG, 99), true);
        SignTiles two = signedStreet();
        two.see(0, 0, SignTiles.ALONG, 90);
        two.see(1, 0, SignTiles.ALONG, 40);
        Check.same("the later two agree", two.see(2, 0, SignTiles.ALONG, 50), true);
        SignTiles other = signedStreet();
        other.see(0, 0, SignTiles.ALONG, 0);
        Check.same("other directions don't agree", other.see(1, 0, SignTiles.AGAINST, 0), false);
        Check.same("and both stay", other.sightings(0), 2);
        SignTiles ways = signedStreet();
        ways.addWay(0, 2, 2, 4, SignTiles.STREET);
        ways.see(0, 0, SignTiles.ALONG, 0);
        Check.same("other ways don't agree", ways.see(1, 1, SignTiles.ALONG, 0), false);
    }

    private static void promise22RefusesSigns() {
        Supplier<SignTiles> setUp = CarTest::streetWithSightings;
        for (int wrong : new int[] {-1, 3, LOWEST, HIGHEST}) {
            Check.noIndex("see by car " + wrong, setUp, x -> x.see(wrong, 0, 3, 100));
            Check.noArgument("see of direction " + wrong, setUp, x -> x.see(0, 0, wrong, 0));
        }
        for (int wrong : new int[] {-1, 1, LOWEST, HIGHEST}) {
            Check.noIndex("see of way " + wrong, setUp, x -> x.see(0, wrong, 3, 100));
        }
        for (int wrong : new int[] {-1, 100, LOWEST, HIGHEST}) {
            Check.noArgument("see with a doubt of " + wrong, setUp, x -> x.see(0, 0, 0, wrong));
            Check.noArgument("see from afar with a doubt of " + wrong, setUp, x -> x.see(2, 0, 0, wrong));
        }
        Check.noState("see from within the way", setUp, x -> x.see(2, 0, SignTiles.BOTH, 0));
        Supplier<SignTiles> away = CarTest::carBesideTheEnd;
        Check.noState("see from below the end", away, x -> x.see(2, 0, SignTiles.BOTH, 0));
    }

    /** Car 2 is within the street. */
    private static SignTiles streetWithSightings() {
        SignTiles map = signedStreet();
        map.see(0, 0, SignTiles.ALONG, 40);
        map.see(1, 0, SignTiles.AGAINST, 40);
        map.drive(2, 3, 2);
        return map;
    }

    private static SignTiles carBesideTheEnd() {
        SignTiles map = streetWithSightings();
        map.drive(2, 6, 3);
        return map;
    }

    private static void promise23CountsSightings() {
        SignTiles map = signedStreet();
        Check.same("sightings at first", map.sightings(0), 0);
        int count = 0;
        for (int car = 0; car < 3; car++) {
            for (int direction = SignTiles.BOTH; direction <= SignTiles.AGAINST; direction++) {
                count++;
                map.see(car, 0, direction, 99);
                Check.same("sightings of each car and direction", map.sightings(0), count);
            }
        }
        map.see(0, 0, SignTiles.BOTH, 98);
        Check.same("sightings after less doubt", map.sightings(0), 3);
    }

    private static void promise24TellsWhatIsDear() {
        for (int kind = SignTiles.LANE; kind <= SignTiles.HIGHWAY; kind++) {
            SignTiles map = new SignTiles();
            map.addWay(0, 0, 0, -4, kind);
            Check.same("dear without sightings", map.dear(0), 0);
            map.see(0, 0, SignTiles.BOTH, 0);
            Check.same("dear by signs of its direction", map.dear(0), 0);
            map.see(0, 0, SignTiles.ALONG, 99);
            Check.same("dear by a great doubt", map.dear(0), kind + 1);
            map.see(1, 0, SignTiles.ALONG, 70);
            Check.same("dear by the least doubt", map.dear(0), 30 * (kind + 1));
            map.see(2, 0, SignTiles.AGAINST, 99);
            Check.same("dear by the least doubt still", map.dear(0), 30 * (kind + 1));
            map.edit(0, 0, kind, SignTiles.ALONG);
            Check.same("dear by the other ones now", map.dear(0), 100 * (kind + 1));
            Check.same("sightings stay", map.sightings(0), 4);
            map.edit(0, 0, SignTiles.ROAD, SignTiles.BOTH);
            Check.same("dear by its kind now", map.dear(0), 90);
        }
    }

    /** Ways whose doubts are dear: a highway far away, by 40, and a lane near by, by 50. */
    private static SignTiles dearWays() {
        SignTiles map = new SignTiles();
        map.addWay(0, 10, 10, -4, SignTiles.HIGHWAY);
        map.addWay(0, 1, 0, 4, SignTiles.LANE);
        map.addWay(0, 0, 16, 16, SignTiles.STREET);
        map.drive(0, 10, 14);
        map.see(0, 0, SignTiles.ALONG, 90);
        map.drive(0, 1, 0);
        map.see(0, 1, SignTiles.AGAINST, 50);
        map.drive(0, 0, 0);
        return map;
    }

    private static void promise25ChoosesTargets() {
        SignTiles map = dearWays();
        Check.same("target near the lane", map.target(0), 1);
        map.drive(1, 10, 14);
        Check.same("target at the highway's end", map.target(1), 0);
        map.drive(2, 10, 10);
        Check.same("target at the highway's begin", map.target(2), 0);
        map.drive(2, 5, 0);
        Check.same("target at the lane's end", map.target(2), 1);
        map.edit(0, 1, SignTiles.LANE, SignTiles.AGAINST);
        Check.same("target when the lane is not dear", map.target(0), 0);
        map.edit(0, 0, SignTiles.HIGHWAY, SignTiles.ALONG);
        Check.same("target when none is dear", map.target(0), SignTiles.NONE);
        SignTiles least = new SignTiles();
        least.addWay(0, 16, 15, -1, SignTiles.LANE);
        least.drive(1, 16, 16);
        least.see(1, 0, SignTiles.ALONG, 99);
        Check.same("target that is dear by the least, and far away", least.target(0), 0);
    }

    private static void promise25PrefersTheLowestWay() {
        SignTiles map = new SignTiles();
        map.addWay(0, 4, 0, 1, SignTiles.LANE);
        map.addWay(0, 0, 5, -1, SignTiles.LANE);
        map.addWay(0, 0, 5, -1, SignTiles.LANE);
        map.drive(1, 4, 0);
        map.see(1, 0, SignTiles.ALONG, 96);
        map.drive(1, 0, 5);
        map.see(1, 1, SignTiles.ALONG, 95);
        map.see(1, 2, SignTiles.ALONG, 95);
        // 4 * 100 / 5 is 80; 5 * 100 / 6 is 83.
        Check.same("target of two that are as dear", map.target(0), 1);
        map.see(1, 2, SignTiles.ALONG, 94);
        Check.same("target that is dearer by little", map.target(0), 2);
        SignTiles rounded = new SignTiles();
        rounded.addWay(0, 16, 14, -1, SignTiles.LANE);
        rounded.addWay(0, 16, 13, -1, SignTiles.LANE);
        rounded.drive(1, 16, 14);
        rounded.see(1, 0, SignTiles.ALONG, 99);
        rounded.see(1, 1, SignTiles.ALONG, 99);
        // 100 / 31 and 100 / 30 are 3 both, rounded down.
        Check.same("target of two that are as dear when rounded down", rounded.target(0), 0);
        SignTiles exact = new SignTiles();
        exact.addWay(0, 2, 14, 1, SignTiles.LANE);
        exact.addWay(0, 14, 5, 1, SignTiles.LANE);
        exact.drive(1, 2, 14);
        exact.see(1, 0, SignTiles.ALONG, 97);
        exact.drive(1, 14, 5);
        exact.see(1, 1, SignTiles.ALONG, 96);
        exact.drive(1, 2, 5);
        // 300 / 10 and 400 / 13 are 30 both; times 99 or 101 they would not be as dear.
        Check.same("target of two that are as dear when rounded down from 100 times", exact.target(1), 0);
    }

    private static void promise26Sends() {
        SignTiles map = dearWays();
        Check.same("send to the begin", map.send(0), 1);
        Check.same("carAt the begin", map.carAt(0), 100);
        Check.same("send where it is", map.send(0), 0);
        map.drive(1, 9, 15);
        Check.same("send to the end", map.send(1), 2);
        Check.same("carAt the end", map.carAt(1), 1014);
        map.drive(2, 3, 0);
        Check.same("send when both are as near", map.send(2), 2);
        Check.same("carAt the begin when both are as near", map.carAt(2), 100);
        Check.same("another car stays", map.carAt(0), 100);
        map.drive(2, 10, 9);
        Check.same("send to the highway's begin", map.send(2), 1);
        Check.same("carAt the highway's begin", map.carAt(2), 1010);
        map.drive(2, 4, 1);
        Check.same("send to the lane's end", map.send(2), 2);
        Check.same("carAt the lane's end", map.carAt(2), 500);
        Check.noState("send without a target", CarTest::signedStreet, x -> x.send(0));
        Check.noState("send without ways", SignTiles::new, x -> x.send(2));
    }

    private static void promise27TellsWhereCarsAre() {
        SignTiles map = new SignTiles();
        map.drive(0, 16, 3);
        map.drive(1, 3, 16);
        Check.same("carAt of car 0", map.carAt(0), 1603);
        Check.same("carAt of car 1", map.carAt(1), 316);
        Check.same("carAt of car 2", map.carAt(2), 0);
    }

    private static void promises21To27RefuseWhatIsNoCarOrWay() {
        Supplier<SignTiles> setUp = CarTest::streetWithSightings;
        for (int wrong : new int[] {-1, 3, LOWEST, HIGHEST}) {
            Check.noIndex("drive of car " + wrong, setUp, x -> x.drive(wrong, 0, 0));
            Check.noIndex("target of car " + wrong, setUp, x -> x.target(wrong));
            Check.noIndex("send of car " + wrong, setUp, x -> x.send(wrong));
            Check.noIndex("send of car " + wrong + " without ways", SignTiles::new, x -> x.send(wrong));
            Check.noIndex("carAt of car " + wrong, setUp, x -> x.carAt(wrong));
        }
        for (int wrong : new int[] {-1, 1, LOWEST, HIGHEST}) {
            Check.noIndex("sightings of way " + wrong, setUp, x -> x.sightings(wrong));
            Check.noIndex("dear of way " + wrong, setUp, x -> x.dear(wrong));
        }
    }
}
