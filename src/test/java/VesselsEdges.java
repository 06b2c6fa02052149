/** Promises 1 to 7: a new object, vessels, shares, runs, moves, dips, what breaks. */
final class VesselsEdges {
    private static final String INDEX = "Throws `IndexOutOfBoundsException` if there is no such ";
    private static final String ARGUMENT = "Throws `IllegalArgumentException` if ";
    private static final String STATE = "Throws `IllegalStateException` if ";
    private static final String RUN_STATE = STATE + "more drops came than the wash had, there is no room, or there were"
        + " 60 runs";
    private static final String MOVE_STATE = STATE + "they are at unlike places, there is not so much, or there is no room";
    private static final int[] NO_VESSELS = {-1, 4, Integer.MIN_VALUE, Integer.MAX_VALUE};

    private VesselsEdges() {
    }

    // ---- promise 1

    @Says(in = "Promise 1", text = "`Gaugerhall()`: The day 0; no vessels.")
    static void aNewObject() {
        Gaugerhall hall = new Gaugerhall();
        Check.due("day", 0, hall.day());
        for (int vessel : new int[] {-1, 0, 1}) {
            Check.refused("ofVessel(" + vessel + ", 0)", Check.INDEX, Gaugerhall::new, x -> x.ofVessel(vessel, 0));
        }
        Check.due("the first vessel", 0, hall.vessel(0, 1));
        Check.refused("the second, when there is one", Check.INDEX, () -> vessels(1), x -> x.ofVessel(1, 0));
    }

    @Says(in = "Promise 1", text = "no vessels.")
    static void aNewObjectHasNothing() {
        Gaugerhall hall = new Gaugerhall();
        for (int what = 0; what < 8; what++) {
            Check.due("ledger(" + what + ")", 0, hall.ledger(what));
        }
        int[] duty = {0, 10, -1, 1000000, 0, 0};
        for (int what = 0; what < 6; what++) {
            Check.due("duty(" + what + ")", duty[what], hall.duty(what));
        }
        Check.refused("ofMovement(0, 0)", Check.INDEX, Gaugerhall::new, x -> x.ofMovement(0, 0));
        Check.refused("run(0, ..)", Check.INDEX, Gaugerhall::new, x -> x.run(0, 1, 1, 1, 1));
        Check.refused("arrive(0, 0)", Check.INDEX, Gaugerhall::new, x -> x.arrive(0, 0));
        Check.refused("export(1)", Check.STATE, Gaugerhall::new, x -> x.export(1));
        Check.refused("pay(1)", Check.STATE, Gaugerhall::new, x -> x.pay(1));
    }

    // ---- promise 2

    @Says(in = "Promise 2", text = "`place`: 0 to 3")
    static void vesselPlace() {
        Check.range(Check.INDEX, 0, 3, Scenes::busy, (x, place) -> x.vessel(place, 5));
        for (int place = 0; place <= 3; place++) {
            Gaugerhall hall = new Gaugerhall();
            hall.vessel(place, 5);
            Check.due("place", place, hall.ofVessel(0, 3));
        }
    }

    @Says(in = "Promise 2", text = "`capacity`: 1 to 9999")
    static void vesselCapacity() {
        Check.range(Check.ARGUMENT, 1, 9999, Scenes::busy, (x, capacity) -> x.vessel(0, capacity));
        for (int capacity : new int[] {1, 9999}) {
            Gaugerhall hall = new Gaugerhall();
            hall.vessel(0, capacity);
            Check.due("room", capacity, hall.ofVessel(0, 4));
        }
    }

    @Says(in = "Promise 2", text = "Returns its number.")
    static void vesselReturnsItsNumber() {
        Gaugerhall hall = new Gaugerhall();
        Check.due("the first", 0, hall.vessel(3, 5));
        Check.due("the second", 1, hall.vessel(3, 5));
        Check.due("the fifth", 4, Scenes.busy().vessel(0, 5));
        Check.due("the tenth", 9, vessels(9).vessel(0, 5));
    }

    private static Gaugerhall vessels(int count) {
        Gaugerhall hall = new Gaugerhall();
        for (int i = 0; i < count; i++) {
            hall.vessel(i % 4, 10);
        }
        return hall;
    }

    @Says(in = "Promise 2", text = INDEX + "place")
    static void vesselAtNoPlace() {
        for (int place : NO_VESSELS) {
            Check.refused("at " + place, Check.INDEX, Gaugerhall::new, x -> x.vessel(place, 1));
            Check.refused("when there are 10", Check.INDEX, () -> vessels(10), x -> x.vessel(place, 1));
        }
    }

    @Says(in = "Promise 2", text = ARGUMENT + "capacity is out of range")
    static void vesselOfNoCapacity() {
        for (int capacity : new int[] {-1, 0, 10000, Integer.MIN_VALUE, Integer.MAX_VALUE}) {
            Check.refused("of " + capacity, Check.ARGUMENT, Gaugerhall::new, x -> x.vessel(3, capacity));
            Check.refused("when there are 10", Check.ARGUMENT, () -> vessels(10), x -> x.vessel(3, capacity));
        }
    }

    @Says(in = "Promise 2", text = STATE + "there are 10")
    static void vesselWhenThereAre10() {
        Gaugerhall hall = Check.taken("the tenth", () -> vessels(9), x -> x.vessel(0, 5));
        Check.due("room of the tenth", 5, hall.ofVessel(9, 4));
        Check.refused("the eleventh", Check.STATE, () -> vessels(10), x -> x.vessel(0, 5));
        Check.refused("refused ones are not counted", Check.STATE, VesselsEdges::tenAmongRefused, x -> x.vessel(0, 5));
    }

    private static Gaugerhall tenAmongRefused() {
        Gaugerhall hall = new Gaugerhall();
        for (int i = 0; i < 10; i++) {
            Check.thrown("capacity 0", Check.ARGUMENT, hall, x -> x.vessel(0, 0));
            Check.thrown("no place", Check.INDEX, hall, x -> x.vessel(4, 1));
            Check.due("number", i, hall.vessel(0, 10));
        }
        return hall;
    }

    // ---- promise 3

    @Says(in = "Promise 3", text = "`place`: 0 to 3")
    static void sharesPlace() {
        Check.range(Check.INDEX, 0, 3, Scenes::busy, (x, place) -> x.shares(place, 5));
        for (int place = 0; place <= 3; place++) {
            Gaugerhall hall = new Gaugerhall();
            hall.shares(place, 7);
            for (int other = 0; other <= 3; other++) {
                Check.due("rate at " + other, other == place ? 7 : 0, hall.shares(other, 0));
            }
        }
    }

    @Says(in = "Promise 3", text = "`rate`: 0 to 500")
    static void sharesRate() {
        Check.range(Check.ARGUMENT, 0, 500, Scenes::busy, (x, rate) -> x.shares(0, rate));
        int[][] rates = {{0, 100000}, {1, 99999}, {499, 99501}, {500, 99500}};
        for (int[] r : rates) {
            Gaugerhall hall = Scenes.holding(1000, 100);
            hall.shares(0, r[0]);
            hall.pass(1);
            Check.due("100000 drops at " + r[0], r[1], hall.ofVessel(0, 1));
        }
    }

    @Says(in = "Promise 3", text = "Returns that before.")
    static void sharesReturnsThatBefore() {
        Gaugerhall hall = new Gaugerhall();
        Check.due("0 at first", 0, hall.shares(2, 500));
        Check.due("500 then", 500, hall.shares(2, 0));
        Check.due("0 then", 0, hall.shares(2, 0));
        Check.thrown("501", Check.ARGUMENT, hall, x -> x.shares(2, 501));
        Check.due("0 still", 0, hall.shares(2, 1));
    }

    @Says(in = "Promise 3", text = INDEX + "place")
    static void sharesAtNoPlace() {
        for (int place : NO_VESSELS) {
            Check.refused("at " + place, Check.INDEX, Scenes::busy, x -> x.shares(place, 0));
            Check.refused("at " + place + ", of 501", Check.INDEX, Scenes::busy, x -> x.shares(place, 501));
        }
    }

    @Says(in = "Promise 3", text = ARGUMENT + "rate is out of range")
    static void sharesOfNoRate() {
        for (int place = 0; place <= 3; place++) {
            int at = place;
            Check.outside(Check.ARGUMENT, 0, 500, Scenes::busy, (x, rate) -> x.shares(at, rate));
        }
    }

    // ---- promise 4

    private static Gaugerhall empty() {
        Gaugerhall hall = new Gaugerhall();
        hall.vessel(0, 9999);
        return hall;
    }

    @Says(in = "Promise 4", text = "`vessel`: where it goes")
    static void runGoesToItsVessel() {
        Check.range(Check.INDEX, 0, 3, Scenes::busy, (x, vessel) -> x.run(vessel, 10, 10, 1, 100));
        Gaugerhall hall = Scenes.busy();
        hall.run(3, 10, 10, 1, 100);
        Check.due("in the last vessel", 100, hall.ofVessel(3, 1));
    }

    @Says(in = "Promise 4", text = "`wash`: 1 to 9999: its volume")
    static void runWash() {
        Check.range(Check.ARGUMENT, 1, 9999, Scenes::busy, (x, wash) -> x.run(3, wash, 300, 1, 300));
        Check.due("missing of the least", 0, empty().run(0, 1, 300, 1, 300));
        Check.due("missing of the most", 2699730 - 300, empty().run(0, 9999, 300, 1, 300));
    }

    @Says(in = "Promise 4", text = "`washStrength`: 1 to 300")
    static void runWashStrength() {
        Check.range(Check.ARGUMENT, 1, 300, Scenes::busy, (x, strength) -> x.run(3, 1000, strength, 2, 500));
        Check.due("missing of the least", 8999 - 960, empty().run(0, 9999, 1, 1, 960));
        Check.due("missing of the most", 2699730 - 960, empty().run(0, 9999, 300, 1, 960));
    }

    @Says(in = "Promise 4", text = "`volume`: 1 to 9999: what came")
    static void runVolume() {
        Check.range(Check.ARGUMENT, 1, 9999, VesselsEdges::empty, (x, volume) -> x.run(0, 9999, 300, volume, 1));
        for (int volume : new int[] {1, 9999}) {
            Gaugerhall hall = empty();
            hall.run(0, 9999, 300, volume, 1);
            Check.due("volume", volume, hall.ofVessel(0, 0));
        }
    }

    @Says(in = "Promise 4", text = "`strength`: 1 to 960")
    static void runStrength() {
        Check.range(Check.ARGUMENT, 1, 960, Scenes::busy, (x, strength) -> x.run(3, 9999, 300, 1, strength));
        for (int strength : new int[] {1, 960}) {
            Gaugerhall hall = empty();
            hall.run(0, 9999, 300, 2, strength);
            Check.due("strength", strength, hall.ofVessel(0, 2));
            Check.due("drops", 2 * strength, hall.ofVessel(0, 1));
        }
    }

    @Says(in = "Promise 4", text = "Returns how many drops are missing by it.")
    static void runReturnsWhatIsMissing() {
        int[][] runs = {{100, 0}, {91, 0}, {90, 0}, {89, 1}, {88, 2}, {1, 89}};
        Gaugerhall hall = empty();
        int missing = 0;
        for (int[] r : runs) {
            Check.due(r[0] + " of 100", r[1], hall.run(0, 10, 10, 1, r[0]));
            missing += r[1];
        }
        Check.due("never made", missing, hall.ledger(7));
    }

    @Says(in = "Promise 4", text = INDEX + "vessel")
    static void runToNoVessel() {
        for (int vessel : NO_VESSELS) {
            Check.refused("to " + vessel, Check.INDEX, Scenes::busy, x -> x.run(vessel, 1, 1, 1, 1));
            Check.refused("to " + vessel + ", of 0", Check.INDEX, Scenes::busy, x -> x.run(vessel, 0, 0, 0, 0));
            Check.refused("to " + vessel + ", of too much", Check.INDEX, Scenes::busy, x -> x.run(vessel, 1, 1, 1, 2));
        }
    }

    @Says(in = "Promise 4", text = ARGUMENT + "wash, washStrength, volume or strength is out of range")
    static void runOfWhatIsOutOfRange() {
        int[][] runs = {{0, 1, 1, 1}, {10000, 1, 1, 1}, {1, 0, 1, 1}, {1, 301, 1, 1}, {1, 1, 0, 1}, {1, 1, 10000, 1},
            {1, 1, 1, 0}, {1, 1, 1, 961}, {0, 0, 0, 0}, {10000, 301, 10000, 961}, {-1, -1, -1, -1},
            {Integer.MAX_VALUE, Integer.MAX_VALUE, 1, 1}, {1, 1, Integer.MIN_VALUE, Integer.MIN_VALUE}};
        for (int[] r : runs) {
            Check.refused("run", Check.ARGUMENT, Scenes::busy, x -> x.run(3, r[0], r[1], r[2], r[3]));
        }
    }

    @Says(in = "Promise 4", text = RUN_STATE)
    static void runOfMoreDropsThanTheWashHad() {
        Check.taken("100 of 100", Scenes::busy, x -> x.run(3, 10, 10, 2, 50));
        Check.refused("101 of 100", Check.STATE, Scenes::busy, x -> x.run(3, 10, 10, 1, 101));
        Check.refused("102 of 100", Check.STATE, Scenes::busy, x -> x.run(3, 10, 10, 2, 51));
    }

    @Says(in = "Promise 4", text = RUN_STATE)
    static void runWithoutRoom() {
        Check.taken("500 into 500", Scenes::busy, x -> x.run(3, 9999, 300, 500, 1));
        Check.refused("501 into 500", Check.STATE, Scenes::busy, x -> x.run(3, 9999, 300, 501, 1));
        Check.taken("910 into 1000 that holds 90", Scenes::busy, x -> x.run(2, 9999, 300, 910, 1));
        Check.refused("911 into 1000 that holds 90", Check.STATE, Scenes::busy, x -> x.run(2, 9999, 300, 911, 1));
    }

    @Says(in = "Promise 4", text = RUN_STATE)
    static void runWhenThereWere60() {
        Gaugerhall hall = Check.taken("the 60th", () -> runs(59), x -> x.run(0, 1, 1, 1, 1));
        Check.due("made", 60, hall.ledger(0));
        Check.refused("the 61st", Check.STATE, () -> runs(60), x -> x.run(0, 1, 1, 1, 1));
        Check.refused("the 61st, into another", Check.STATE, () -> runs(60), x -> x.run(1, 1, 1, 1, 1));
        Check.refused("the 61st, of 0", Check.ARGUMENT, () -> runs(60), x -> x.run(0, 0, 1, 1, 1));
        Check.refused("the 61st, to nowhere", Check.INDEX, () -> runs(60), x -> x.run(2, 1, 1, 1, 1));
    }

    /** So many runs, among others that are refused and do not count. */
    private static Gaugerhall runs(int count) {
        Gaugerhall hall = empty();
        hall.vessel(1, 100);
        for (int i = 0; i < count; i++) {
            Check.thrown("2 drops of 1", Check.STATE, hall, x -> x.run(1, 1, 1, 2, 1));
            hall.run(0, 1, 1, 1, 1);
        }
        return hall;
    }

    // ---- promise 5

    @Says(in = "Promise 5", text = "`vessel`: from where")
    static void moveFromAVessel() {
        Check.range(Check.INDEX, 0, 1, VesselsEdges::bothHold, (x, vessel) -> x.move(vessel, 1 - vessel, 1));
    }

    /** Two vessels beside each other, of 100 each, that hold 40. */
    private static Gaugerhall bothHold() {
        Gaugerhall hall = new Gaugerhall();
        hall.vessel(0, 100);
        hall.vessel(0, 100);
        hall.dip(0, 40, 5);
        hall.dip(1, 40, 5);
        return hall;
    }

    @Says(in = "Promise 5", text = "`other`: another one")
    static void moveToAnotherOne() {
        Check.taken("from 0 to 1", VesselsEdges::bothHold, x -> x.move(0, 1, 1));
        Check.taken("from 1 to 0", VesselsEdges::bothHold, x -> x.move(1, 0, 1));
        Check.refused("from 0 to 0", Check.ARGUMENT, VesselsEdges::bothHold, x -> x.move(0, 0, 1));
        Check.refused("from 1 to 1", Check.ARGUMENT, VesselsEdges::bothHold, x -> x.move(1, 1, 1));
        Check.outside(Check.INDEX, 0, 1, VesselsEdges::bothHold, (x, other) -> x.move(0, other, 1));
    }

    @Says(in = "Promise 5", text = "`volume`: 1 or more")
    static void moveOf1OrMore() {
        Gaugerhall hall = Check.taken("1", VesselsEdges::bothHold, x -> x.move(0, 1, 1));
        Check.due("volume", 39, hall.ofVessel(0, 0));
        for (int volume : new int[] {0, -1, Integer.MIN_VALUE}) {
            Check.refused("" + volume, Check.ARGUMENT, VesselsEdges::bothHold, x -> x.move(0, 1, volume));
        }
    }

    @Says(in = "Promise 5", text = "Returns the volume of the other one then.")
    static void moveReturnsTheVolumeOfTheOther() {
        Check.due("1 to 40", 41, bothHold().move(0, 1, 1));
        Check.due("all to 40", 80, bothHold().move(1, 0, 40));
        Check.due("to an empty one", 7, Scenes.holding(10, 5).move(0, 1, 7));
        Gaugerhall shrinking = Scenes.holding(100, 100);
        shrinking.dip(1, 100, 0);
        Check.due("shrunk", 199, shrinking.move(0, 1, 100));
    }

    @Says(in = "Promise 5", text = INDEX + "vessel, of either")
    static void moveOfNoVessel() {
        for (int vessel : NO_VESSELS) {
            Check.refused("from " + vessel, Check.INDEX, Scenes::busy, x -> x.move(vessel, 0, 1));
            Check.refused("to " + vessel, Check.INDEX, Scenes::busy, x -> x.move(0, vessel, 1));
            Check.refused("of both " + vessel, Check.INDEX, Scenes::busy, x -> x.move(vessel, vessel, 1));
            Check.refused("of 0 to " + vessel, Check.INDEX, Scenes::busy, x -> x.move(0, vessel, 0));
            Check.refused("of too much to " + vessel, Check.INDEX, Scenes::busy, x -> x.move(0, vessel, 9999));
        }
    }

    @Says(in = "Promise 5", text = ARGUMENT + "both are the same, or volume is below 1")
    static void moveToItself() {
        Check.refused("of 1", Check.ARGUMENT, Scenes::busy, x -> x.move(0, 0, 1));
        Check.refused("of too much", Check.ARGUMENT, Scenes::busy, x -> x.move(3, 3, 9999));
        Check.refused("of 0", Check.ARGUMENT, Scenes::busy, x -> x.move(3, 3, 0));
    }

    @Says(in = "Promise 5", text = "or volume is below 1")
    static void moveOfLessThan1() {
        for (int volume : new int[] {0, -1, Integer.MIN_VALUE}) {
            Check.refused("to another place", Check.ARGUMENT, Scenes::busy, x -> x.move(0, 2, volume));
            Check.refused("from an empty one", Check.ARGUMENT, Scenes::busy, x -> x.move(3, 0, volume));
        }
    }

    @Says(in = "Promise 5", text = MOVE_STATE)
    static void moveToAnUnlikePlace() {
        Check.taken("at one place", Scenes::busy, x -> x.move(0, 1, 1));
        Check.refused("from place 0 to 1", Check.STATE, Scenes::busy, x -> x.move(0, 2, 1));
        Check.refused("from place 1 to 0", Check.STATE, Scenes::busy, x -> x.move(2, 0, 1));
        Check.refused("from place 0 to 3", Check.STATE, Scenes::busy, x -> x.move(0, 3, 1));
    }

    @Says(in = "Promise 5", text = MOVE_STATE)
    static void moveOfNotSoMuch() {
        Gaugerhall all = Check.taken("all", VesselsEdges::bothHold, x -> x.move(0, 1, 40));
        Check.due("nothing stays", 0, all.ofVessel(0, 0) + all.ofVessel(0, 1));
        Check.refused("1 more", Check.STATE, VesselsEdges::bothHold, x -> x.move(0, 1, 41));
        Check.refused("the most", Check.STATE, VesselsEdges::bothHold, x -> x.move(0, 1, Integer.MAX_VALUE));
        Check.refused("1 from an empty one", Check.STATE, () -> Scenes.holding(5, 5), x -> x.move(1, 0, 1));
    }

    @Says(in = "Promise 5", text = MOVE_STATE)
    static void moveWithoutRoom() {
        Check.Scene scene = () -> Scenes.nearlyFull(100, 99, 50);
        Check.due("full", 0, Check.taken("1 into the last room", scene, x -> x.move(1, 0, 1)).ofVessel(0, 4));
        Check.refused("2 into the last room", Check.STATE, scene, x -> x.move(1, 0, 2));
    }

    // ---- promise 6

    @Says(in = "Promise 6", text = "`vessel`: its number")
    static void dipOfAVessel() {
        Check.range(Check.INDEX, 0, 3, Scenes::busy, (x, vessel) -> x.dip(vessel, 1, 1));
    }

    @Says(in = "Promise 6", text = "`volume`: 0 to its capacity")
    static void dipVolume() {
        Check.range(Check.ARGUMENT, 0, 500, Scenes::busy, (x, volume) -> x.dip(3, volume, 1));
        Check.range(Check.ARGUMENT, 0, 9999, Scenes::busy, (x, volume) -> x.dip(0, volume, 1));
        Check.range(Check.ARGUMENT, 0, 1, () -> Scenes.nearlyFull(1, 0, 0), (x, volume) -> x.dip(0, volume, 1));
        Check.due("full", 0, Check.taken("its capacity", Scenes::busy, x -> x.dip(3, 500, 1)).ofVessel(3, 4));
    }

    @Says(in = "Promise 6", text = "`strength`: 0 to 960")
    static void dipStrength() {
        Check.range(Check.ARGUMENT, 0, 960, Scenes::busy, (x, strength) -> x.dip(0, 7, strength));
        Check.range(Check.ARGUMENT, 0, 960, Scenes::busy, (x, strength) -> x.dip(0, 0, strength));
        Check.due("the most", 7 * 960, Check.taken("960", Scenes::busy, x -> x.dip(0, 7, 960)).ofVessel(0, 1));
        Check.due("the least", 0, Check.taken("0", Scenes::busy, x -> x.dip(0, 7, 0)).ofVessel(0, 1));
    }

    @Says(in = "Promise 6", text = "Returns how many drops it had more, below 0 for less.")
    static void dipReturnsWhatItHadMore() {
        int[][] dips = {{0, 100}, {99, 1}, {100, 0}, {101, -1}, {9999, -9899}};
        for (int[] d : dips) {
            Check.due(d[0] + " in a volume that had 100", d[1], Scenes.holding(100, 1).dip(0, d[0], 1));
        }
        Check.due("all of a full one", 9599040, Scenes.holding(9999, 960).dip(0, 9999, 0));
        Check.due("all into an empty one", -9599040, Scenes.holding(0, 0).dip(0, 9999, 960));
    }

    @Says(in = "Promise 6", text = INDEX + "vessel")
    static void dipOfNoVessel() {
        for (int vessel : NO_VESSELS) {
            Check.refused("of " + vessel, Check.INDEX, Scenes::busy, x -> x.dip(vessel, 0, 0));
            Check.refused("of " + vessel + ", out of range", Check.INDEX, Scenes::busy, x -> x.dip(vessel, -1, 961));
            Check.refused("of " + vessel + ", the 61st", Check.INDEX, () -> dips(60), x -> x.dip(vessel, 0, 0));
        }
    }

    @Says(in = "Promise 6", text = ARGUMENT + "volume or strength is out of range")
    static void dipOfWhatIsOutOfRange() {
        int[][] dips = {{-1, 0}, {501, 0}, {0, -1}, {0, 961}, {-1, 961}, {501, -1}, {9999, 1},
            {Integer.MIN_VALUE, Integer.MIN_VALUE}, {Integer.MAX_VALUE, Integer.MAX_VALUE}};
        for (int[] d : dips) {
            Check.refused("dip", Check.ARGUMENT, Scenes::busy, x -> x.dip(3, d[0], d[1]));
        }
    }

    @Says(in = "Promise 6", text = STATE + "there were 60 dips")
    static void dipWhenThereWere60() {
        Gaugerhall hall = Check.taken("the 60th", () -> dips(59), x -> x.dip(0, 7, 3));
        Check.due("drops", 21, hall.ofVessel(0, 1));
        Check.refused("the 61st", Check.STATE, () -> dips(60), x -> x.dip(0, 7, 3));
        Check.refused("the 61st, of another", Check.STATE, () -> dips(60), x -> x.dip(1, 7, 3));
        Check.refused("the 61st, as it is", Check.STATE, () -> dips(60), x -> x.dip(0, 1, 1));
        Check.refused("the 61st, out of range", Check.ARGUMENT, () -> dips(60), x -> x.dip(0, 7, 961));
        Check.refused("the 61st, of nothing", Check.INDEX, () -> dips(60), x -> x.dip(4, 7, 3));
    }

    /** So many dips, of two vessels, among others that are refused and do not count. */
    private static Gaugerhall dips(int count) {
        Gaugerhall hall = empty();
        hall.vessel(1, 100);
        for (int i = 0; i < count; i++) {
            Check.thrown("961", Check.ARGUMENT, hall, x -> x.dip(0, 1, 961));
            hall.dip(i % 2, 1, 1);
        }
        return hall;
    }

    // ---- promise 7

    @Says(in = "Promise 7", text = "`vessel`: its number")
    static void loseOfAVessel() {
        Check.range(Check.INDEX, 0, 1, VesselsEdges::bothHold, (x, vessel) -> x.lose(vessel, 1, false));
    }

    @Says(in = "Promise 7", text = "`volume`: 1 or more")
    static void loseOf1OrMore() {
        Gaugerhall hall = Check.taken("1", VesselsEdges::bothHold, x -> x.lose(0, 1, true));
        Check.due("volume", 39, hall.ofVessel(0, 0));
        for (int volume : new int[] {0, -1, Integer.MIN_VALUE}) {
            Check.refused("" + volume, Check.ARGUMENT, VesselsEdges::bothHold, x -> x.lose(0, volume, false));
        }
    }

    @Says(in = "Promise 7", text = "`isWitness`: whether somebody saw it")
    static void loseWithAWitnessOrWithout() {
        Gaugerhall seen = Check.taken("seen", VesselsEdges::bothHold, x -> x.lose(0, 40, true));
        Check.due("EXCUSED", 200, seen.ledger(4));
        Check.due("MISSING", 0, seen.ledger(5));
        Gaugerhall unseen = Check.taken("not seen", VesselsEdges::bothHold, x -> x.lose(0, 40, false));
        Check.due("EXCUSED", 0, unseen.ledger(4));
        Check.due("MISSING", 200, unseen.ledger(5));
    }

    @Says(in = "Promise 7", text = "Returns the duty that arises.")
    static void loseReturnsTheDuty() {
        Check.due("200 drops, seen", 0, bothHold().lose(0, 40, true));
        Check.due("200 drops, not seen", 2, bothHold().lose(0, 40, false));
        Check.due("195 drops, not seen", 1, bothHold().lose(0, 39, false));
        Check.due("100 drops, not seen", 1, bothHold().lose(0, 20, false));
        Check.due("95 drops, not seen", 0, bothHold().lose(0, 19, false));
        Check.due("all of a full one, not seen", 95990, Scenes.holding(9999, 960).lose(0, 9999, false));
    }

    @Says(in = "Promise 7", text = INDEX + "vessel")
    static void loseOfNoVessel() {
        for (int vessel : NO_VESSELS) {
            Check.refused("of " + vessel, Check.INDEX, Scenes::busy, x -> x.lose(vessel, 1, true));
            Check.refused("0 of " + vessel, Check.INDEX, Scenes::busy, x -> x.lose(vessel, 0, false));
            Check.refused("too much of " + vessel, Check.INDEX, Scenes::busy, x -> x.lose(vessel, 9999, false));
        }
    }

    @Says(in = "Promise 7", text = ARGUMENT + "volume is below 1")
    static void loseOfLessThan1() {
        for (int volume : new int[] {0, -1, Integer.MIN_VALUE}) {
            Check.refused("seen", Check.ARGUMENT, Scenes::busy, x -> x.lose(0, volume, true));
            Check.refused("from an empty one", Check.ARGUMENT, Scenes::busy, x -> x.lose(3, volume, false));
        }
    }

    @Says(in = "Promise 7", text = STATE + "there is not so much")
    static void loseOfNotSoMuch() {
        for (boolean isWitness : new boolean[] {true, false}) {
            Gaugerhall all = Check.taken("all", VesselsEdges::bothHold, x -> x.lose(0, 40, isWitness));
            Check.due("nothing stays", 0, all.ofVessel(0, 0) + all.ofVessel(0, 1));
            Check.refused("1 more", Check.STATE, VesselsEdges::bothHold, x -> x.lose(0, 41, isWitness));
            Check.refused("the most", Check.STATE, Scenes::busy, x -> x.lose(0, Integer.MAX_VALUE, isWitness));
            Check.refused("1 from an empty one", Check.STATE, Scenes::busy, x -> x.lose(3, 1, isWitness));
        }
    }
}
