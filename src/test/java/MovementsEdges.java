/** Promises 14 to 17: the guarantee, what is sent, what arrives, days that go by. */
final class MovementsEdges {
    private static final String INDEX = "Throws `IndexOutOfBoundsException` if there is no such ";
    private static final String ARGUMENT = "Throws `IllegalArgumentException` if ";
    private static final String STATE = "Throws `IllegalStateException` if ";
    private static final String SHIP_STATE = STATE + "they are at one place, there is not so much, the guarantee is too"
        + " small, or there are 30";
    private static final String ARRIVE_STATE = STATE + "it does not move any more, or there is no room";
    private static final int[] NO_VESSELS = {-1, 4, Integer.MIN_VALUE, Integer.MAX_VALUE};
    private static final int[] BELOW_1 = {0, -1, Integer.MIN_VALUE};

    private MovementsEdges() {
    }

    /** 40 of strength 5 in vessel 0, and in vessel 2 at another place; the guarantee is 4. */
    private static Gaugerhall bothHold() {
        Gaugerhall hall = Scenes.holding(40, 5);
        hall.dip(2, 40, 5);
        hall.guarantee(4);
        return hall;
    }

    /** 200 drops, of a duty of 2, move to vessel 2 for five days, and as many from it for nine. */
    private static Gaugerhall underWay() {
        Gaugerhall hall = bothHold();
        hall.ship(0, 2, 40, 5);
        hall.ship(2, 1, 40, 9);
        return hall;
    }

    // ---- promise 14

    @Says(in = "Promise 14", text = "`money`: 0 to 9999999")
    static void guaranteeMoney() {
        Check.range(Check.ARGUMENT, 0, 9999999, MovementsEdges::bothHold, (x, money) -> x.guarantee(money));
        for (int money : new int[] {0, 9999999}) {
            Check.due("guarantee", money, Check.taken("guarantee", MovementsEdges::bothHold, x -> x.guarantee(money)).duty(5));
        }
    }

    @Says(in = "Promise 14", text = "Returns that before.")
    static void guaranteeReturnsThatBefore() {
        Gaugerhall hall = new Gaugerhall();
        Check.due("0 at first", 0, hall.guarantee(9999999));
        Check.due("the most", 9999999, hall.guarantee(0));
        Check.thrown("-1", Check.ARGUMENT, hall, x -> x.guarantee(-1));
        Check.due("0 still", 0, hall.guarantee(1));
        Check.due("that before, not what is left of it", 4, underWay().guarantee(5));
    }

    @Says(in = "Promise 14", text = ARGUMENT + "money is out of range")
    static void guaranteeOutOfRange() {
        Check.outside(Check.ARGUMENT, 0, 9999999, Gaugerhall::new, (x, money) -> x.guarantee(money));
        Check.outside(Check.ARGUMENT, 0, 9999999, MovementsEdges::underWay, (x, money) -> x.guarantee(money));
    }

    @Says(in = "Promise 14", text = STATE + "it would be below the duty for all drops that move")
    static void guaranteeBelowTheDuty() {
        Check.due("just the duty", 0, Check.taken("4", MovementsEdges::underWay, x -> x.guarantee(4)).duty(5));
        Check.refused("3", Check.STATE, MovementsEdges::underWay, x -> x.guarantee(3));
        Check.refused("0", Check.STATE, MovementsEdges::underWay, x -> x.guarantee(0));
        Check.Scene oneArrived = () -> {
            Gaugerhall hall = underWay();
            hall.arrive(0, 40);
            return hall;
        };
        Check.taken("2, when one has arrived", oneArrived, x -> x.guarantee(2));
        Check.refused("1, when one has arrived", Check.STATE, oneArrived, x -> x.guarantee(1));
        Check.Scene bothLost = () -> {
            Gaugerhall hall = underWay();
            hall.pass(10);
            return hall;
        };
        Check.taken("0, when both are LOST", bothLost, x -> x.guarantee(0));
    }

    @Says(in = "Promise 14", text = STATE + "it would be below the duty for all drops that move")
    static void guaranteeBelowTheDutyByTheRateOfToday() {
        Check.Scene dearer = () -> {
            Gaugerhall hall = underWay();
            hall.budget(1, 99, 0);
            hall.pass(1);
            return hall;
        };
        Check.due("a duty of 39.6", 4 - 39, dearer.make().duty(5));
        Check.due("just the duty", 0, Check.taken("39", dearer, x -> x.guarantee(39)).duty(5));
        Check.refused("38", Check.STATE, dearer, x -> x.guarantee(38));
        Check.refused("as it is", Check.STATE, dearer, x -> x.guarantee(4));
    }

    // ---- promise 15

    @Says(in = "Promise 15", text = "`vessel`: from where")
    static void shipFromAVessel() {
        Gaugerhall hall = Check.taken("from 0", MovementsEdges::bothHold, x -> x.ship(0, 2, 1, 1));
        Check.due("volume that stays", 39, hall.ofVessel(0, 0));
        Check.taken("from the last", MovementsEdges::bothHold, x -> x.ship(2, 0, 1, 1));
        Check.outside(Check.INDEX, 0, 2, MovementsEdges::bothHold, (x, vessel) -> x.ship(vessel, 2, 1, 1));
    }

    @Says(in = "Promise 15", text = "`other`: where to")
    static void shipToAnother() {
        Gaugerhall hall = Check.taken("to the last", MovementsEdges::bothHold, x -> x.ship(0, 2, 1, 1));
        hall.arrive(0, 1);
        Check.due("volume there", 41, hall.ofVessel(2, 0));
        Check.taken("to 0", MovementsEdges::bothHold, x -> x.ship(2, 0, 1, 1));
        Check.outside(Check.INDEX, 0, 2, MovementsEdges::bothHold, (x, other) -> x.ship(0, other, 1, 1));
    }

    @Says(in = "Promise 15", text = "`volume`: 1 or more")
    static void shipOf1OrMore() {
        Check.due("volume", 1, Check.taken("1", MovementsEdges::bothHold, x -> x.ship(0, 2, 1, 1)).ofMovement(0, 1));
        for (int volume : BELOW_1) {
            Check.refused("" + volume, Check.ARGUMENT, MovementsEdges::bothHold, x -> x.ship(0, 2, volume, 1));
        }
    }

    @Says(in = "Promise 15", text = "`days`: 1 to 60")
    static void shipDays() {
        Check.range(Check.ARGUMENT, 1, 60, MovementsEdges::bothHold, (x, days) -> x.ship(0, 2, 1, days));
        for (int days : new int[] {1, 60}) {
            Gaugerhall hall = Check.taken("ship", MovementsEdges::bothHold, x -> x.ship(0, 2, 1, days));
            Check.due("the day behind which it is LOST", days, hall.ofMovement(0, 3));
        }
    }

    @Says(in = "Promise 15", text = "Returns the number of the movement.")
    static void shipReturnsTheNumber() {
        Gaugerhall hall = bothHold();
        Check.due("the first", 0, hall.ship(0, 2, 1, 1));
        Check.thrown("at one place", Check.STATE, hall, x -> x.ship(0, 1, 1, 1));
        Check.due("the second", 1, hall.ship(2, 0, 1, 1));
        hall.arrive(0, 1);
        Check.due("the third", 2, hall.ship(0, 2, 1, 1));
        Check.due("the thirtieth", 29, ships(29).ship(0, 2, 1, 1));
    }

    @Says(in = "Promise 15", text = INDEX + "vessel, of either")
    static void shipOfNoVessel() {
        for (int vessel : NO_VESSELS) {
            Check.refused("from " + vessel, Check.INDEX, Scenes::busy, x -> x.ship(vessel, 0, 1, 1));
            Check.refused("to " + vessel, Check.INDEX, Scenes::busy, x -> x.ship(0, vessel, 1, 1));
            Check.refused("of both " + vessel, Check.INDEX, Scenes::busy, x -> x.ship(vessel, vessel, 1, 1));
            Check.refused("of 0 to " + vessel, Check.INDEX, Scenes::busy, x -> x.ship(0, vessel, 0, 61));
            Check.refused("too much to " + vessel, Check.INDEX, Scenes::busy, x -> x.ship(0, vessel, 9999, 1));
        }
    }

    @Says(in = "Promise 15", text = ARGUMENT + "volume is below 1")
    static void shipOfLessThan1() {
        for (int volume : BELOW_1) {
            Check.refused("to its place", Check.ARGUMENT, Scenes::busy, x -> x.ship(0, 1, volume, 1));
            Check.refused("from an empty one", Check.ARGUMENT, Scenes::busy, x -> x.ship(3, 0, volume, 1));
            Check.refused("when there are 30", Check.ARGUMENT, () -> ships(30), x -> x.ship(0, 2, volume, 1));
        }
    }

    @Says(in = "Promise 15", text = "or days is out of range")
    static void shipOfDaysOutOfRange() {
        Check.outside(Check.ARGUMENT, 1, 60, Scenes::busy, (x, days) -> x.ship(0, 1, 1, days));
        Check.outside(Check.ARGUMENT, 1, 60, Scenes::busy, (x, days) -> x.ship(0, 2, 9999, days));
        Check.outside(Check.ARGUMENT, 1, 60, () -> ships(30), (x, days) -> x.ship(0, 2, 1, days));
    }

    @Says(in = "Promise 15", text = SHIP_STATE)
    static void shipAtOnePlace() {
        Check.taken("from place 0 to 1", Scenes::busy, x -> x.ship(0, 2, 1, 1));
        Check.taken("from place 0 to 3", Scenes::busy, x -> x.ship(0, 3, 1, 1));
        Check.refused("to one beside it", Check.STATE, Scenes::busy, x -> x.ship(0, 1, 1, 1));
        Check.refused("to itself", Check.STATE, Scenes::busy, x -> x.ship(0, 0, 1, 1));
    }

    @Says(in = "Promise 15", text = SHIP_STATE)
    static void shipOfNotSoMuch() {
        Gaugerhall all = Check.taken("all", MovementsEdges::bothHold, x -> x.ship(0, 2, 40, 1));
        Check.due("nothing stays", 0, all.ofVessel(0, 0) + all.ofVessel(0, 1));
        Check.refused("1 more", Check.STATE, MovementsEdges::bothHold, x -> x.ship(0, 2, 41, 1));
        Check.refused("the most", Check.STATE, MovementsEdges::bothHold, x -> x.ship(0, 2, Integer.MAX_VALUE, 1));
        Check.refused("1 from an empty one", Check.STATE, MovementsEdges::bothHold, x -> x.ship(1, 2, 1, 1));
    }

    @Says(in = "Promise 15", text = SHIP_STATE)
    static void shipWhenTheGuaranteeIsTooSmall() {
        int[][] guarantees = {{0, 19}, {1, 39}, {2, 59}, {5, 119}};
        for (int[] g : guarantees) {
            Check.Scene scene = () -> {
                Gaugerhall hall = Scenes.holding(9999, 5);
                hall.guarantee(g[0]);
                return hall;
            };
            Check.due("left", 0, Check.taken("just enough", scene, x -> x.ship(0, 2, g[1], 1)).duty(5));
            Check.refused("too much for " + g[0], Check.STATE, scene, x -> x.ship(0, 2, g[1] + 1, 1));
        }
        Check.refused("with those that move", Check.STATE, () -> ships(19), x -> x.ship(0, 2, 81, 1));
        Check.taken("with those that move", () -> ships(19), x -> x.ship(0, 2, 80, 1));
    }

    @Says(in = "Promise 15", text = "there is not so much, the guarantee is too small")
    static void shipOfMoreThanThereIsRoomFor() {
        Check.Scene scene = () -> {
            Gaugerhall hall = Scenes.nearlyFull(10, 10, 100);
            hall.ship(2, 0, 99, 9);
            return hall;
        };
        Check.due("it is sent to a full one", 99, scene.make().ofMovement(0, 1));
        Check.refused("where 1 can't arrive", Check.STATE, scene, x -> x.arrive(0, 1));
    }

    @Says(in = "Promise 15", text = SHIP_STATE)
    static void shipWhenThereAre30() {
        Gaugerhall hall = Check.taken("the 30th", () -> ships(29), x -> x.ship(0, 2, 1, 1));
        Check.due("volume of the 30th", 1, hall.ofMovement(29, 1));
        Check.refused("the 31st", Check.STATE, () -> ships(30), x -> x.ship(0, 2, 1, 1));
        Check.refused("the 31st, of 0", Check.ARGUMENT, () -> ships(30), x -> x.ship(0, 2, 0, 1));
        Check.refused("the 31st, to nowhere", Check.INDEX, () -> ships(30), x -> x.ship(0, 3, 1, 1));
    }

    /** So many movements of a drop each, among others that are refused and do not count; the guarantee is 0. */
    private static Gaugerhall ships(int count) {
        Gaugerhall hall = Scenes.holding(9999, 1);
        for (int i = 0; i < count; i++) {
            Check.thrown("the guarantee is too small", Check.STATE, hall, x -> x.ship(0, 2, 100, 1));
            hall.ship(0, 2, 1, 1);
        }
        return hall;
    }

    // ---- promise 16

    @Says(in = "Promise 16", text = "`movement`: its number")
    static void arriveOfAMovement() {
        Check.range(Check.INDEX, 0, 1, MovementsEdges::underWay, (x, movement) -> x.arrive(movement, 40));
        Gaugerhall hall = Check.taken("the last", MovementsEdges::underWay, x -> x.arrive(1, 40));
        Check.due("the first", Gaugerhall.MOVES, hall.ofMovement(0, 0));
        Check.due("the last", Gaugerhall.ARRIVED, hall.ofMovement(1, 0));
    }

    @Says(in = "Promise 16", text = "`volume`: 0 to the volume that went")
    static void arriveVolume() {
        Check.range(Check.ARGUMENT, 0, 40, MovementsEdges::underWay, (x, volume) -> x.arrive(0, volume));
        Gaugerhall nothing = Check.taken("0", MovementsEdges::underWay, x -> x.arrive(0, 0));
        Check.due("it has arrived", Gaugerhall.ARRIVED, nothing.ofMovement(0, 0));
        Check.due("nothing is there", 0, nothing.ofVessel(2, 0));
        Gaugerhall all = Check.taken("all", MovementsEdges::underWay, x -> x.arrive(0, 40));
        Check.due("all is there", 40, all.ofVessel(2, 0));
        Check.due("all drops are there", 200, all.ofVessel(2, 1));
    }

    @Says(in = "Promise 16", text = "Returns how many drops are MISSING by it.")
    static void arriveReturnsWhatIsMissing() {
        int[][] arrivals = {{40, 0}, {39, 5}, {1, 195}, {0, 200}};
        for (int[] a : arrivals) {
            Check.due(a[0] + " of 40, which had 200 drops", a[1], underWay().arrive(0, a[0]));
        }
        Gaugerhall hall = Scenes.holding(200, 1);
        hall.guarantee(2);
        hall.ship(0, 2, 200, 1);
        Check.due("1 less of 200 is EXCUSED", 0, hall.arrive(0, 199));
        Check.due("EXCUSED", 1, hall.ledger(4));
    }

    @Says(in = "Promise 16", text = INDEX + "movement")
    static void arriveOfNoMovement() {
        for (int movement : new int[] {-1, 3, Integer.MIN_VALUE, Integer.MAX_VALUE}) {
            Check.refused("of " + movement, Check.INDEX, Scenes::busy, x -> x.arrive(movement, 0));
            Check.refused("-1 of " + movement, Check.INDEX, Scenes::busy, x -> x.arrive(movement, -1));
        }
        Check.refused("when there is none", Check.INDEX, MovementsEdges::bothHold, x -> x.arrive(0, 0));
    }

    @Says(in = "Promise 16", text = ARGUMENT + "volume is out of range")
    static void arriveOfWhatIsOutOfRange() {
        int[] went = {100, 100, 50};
        for (int i = 0; i < went.length; i++) {
            int movement = i;
            Check.outside(Check.ARGUMENT, 0, went[i], Scenes::busy, (x, volume) -> x.arrive(movement, volume));
        }
    }

    @Says(in = "Promise 16", text = ARRIVE_STATE)
    static void arriveOfOneThatDoesNotMove() {
        for (int volume : new int[] {0, 1, 50, 100}) {
            Check.refused(volume + " of a LOST one", Check.STATE, Scenes::busy, x -> x.arrive(0, volume));
            Check.refused(volume + " of one that has arrived", Check.STATE, Scenes::busy, x -> x.arrive(1, volume));
        }
        Check.Scene lastDay = () -> {
            Gaugerhall hall = underWay();
            hall.pass(5);
            return hall;
        };
        Check.taken("on its last day", lastDay, x -> x.arrive(0, 40));
        Check.Scene behind = () -> {
            Gaugerhall hall = underWay();
            hall.pass(6);
            return hall;
        };
        Check.refused("behind it", Check.STATE, behind, x -> x.arrive(0, 40));
        Check.taken("the other still moves", behind, x -> x.arrive(1, 40));
    }

    @Says(in = "Promise 16", text = ARRIVE_STATE)
    static void arriveWithoutRoom() {
        Check.Scene scene = () -> {
            Gaugerhall hall = Scenes.nearlyFull(100, 99, 50);
            hall.ship(2, 0, 50, 9);
            return hall;
        };
        Check.taken("0", scene, x -> x.arrive(0, 0));
        Check.due("full", 0, Check.taken("1 into the last room", scene, x -> x.arrive(0, 1)).ofVessel(0, 4));
        Check.refused("2 into the last room", Check.STATE, scene, x -> x.arrive(0, 2));
        Check.Scene full = () -> {
            Gaugerhall hall = Scenes.nearlyFull(100, 100, 50);
            hall.ship(2, 0, 50, 9);
            return hall;
        };
        Check.taken("0 into a full one", full, x -> x.arrive(0, 0));
        Check.refused("1 into a full one", Check.STATE, full, x -> x.arrive(0, 1));
    }

    // ---- promise 17

    @Says(in = "Promise 17", text = "`days`: 1 to 60")
    static void passDays() {
        Check.range(Check.ARGUMENT, 1, 60, Scenes::busy, (x, days) -> x.pass(days));
        for (int days : new int[] {1, 60}) {
            Check.due("day", 3 + days, Check.taken("pass", Scenes::busy, x -> x.pass(days)).day());
        }
    }

    @Says(in = "Promise 17", text = "Returns what is owed then.")
    static void passReturnsWhatIsOwed() {
        Gaugerhall hall = Scenes.owing(100);
        Check.due("to day 29", 100, hall.pass(29));
        Check.due("to day 30, grown", 101, hall.pass(1));
        Check.due("to day 90, grown twice", 103, hall.pass(60));
        Check.due("nothing", 0, Scenes.holding(5, 5).pass(60));
        Check.due("below 0", -7, Scenes.owingBelowNothing(7).pass(60));
    }

    @Says(in = "Promise 17", text = ARGUMENT + "days is out of range")
    static void passOutOfRange() {
        Check.outside(Check.ARGUMENT, 1, 60, Gaugerhall::new, (x, days) -> x.pass(days));
        Check.outside(Check.ARGUMENT, 1, 60, () -> onDay(900), (x, days) -> x.pass(days));
    }

    private static Gaugerhall onDay(int day) {
        Gaugerhall hall = Scenes.busy();
        Scenes.passTo(hall, day);
        return hall;
    }

    @Says(in = "Promise 17", text = STATE + "it would be above 900")
    static void passAbove900() {
        int[][] days = {{840, 60}, {841, 59}, {898, 2}, {899, 1}};
        for (int[] d : days) {
            Gaugerhall hall = Check.taken("to day 900", () -> onDay(d[0]), x -> x.pass(d[1]));
            Check.due("day", 900, hall.day());
            if (d[1] < 60) {
                Check.refused("to day 901", Check.STATE, () -> onDay(d[0]), x -> x.pass(d[1] + 1));
                Check.refused("60 days", Check.STATE, () -> onDay(d[0]), x -> x.pass(60));
            }
        }
        Check.refused("1 on the last day", Check.STATE, () -> onDay(900), x -> x.pass(1));
    }
}
