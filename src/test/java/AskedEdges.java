/** Promises 18 to 23: what is asked. */
final class AskedEdges {
    private static final String NO_VESSEL = "Throws `IndexOutOfBoundsException` if there is no such vessel";
    private static final String VESSEL_WHAT = "`what`: 0 its volume, 1 its drops, 2 its strength, 3 its place, 4 how much"
        + " more volume it could hold";
    private static final String MOVEMENT_WHAT = "`what`: 0 MOVES to LOST, 1 the volume that went, 2 the drops that went, 3"
        + " the day behind which it is LOST";
    private static final String LEDGER_WHAT = "`what`: 0 drops made, 1 those in vessels, 2 that move, 3 PAID and not"
        + " exported, 4 EXCUSED, 5 MISSING, 6 EXPORTED, 7 those that were never made by stills";
    private static final String DUTY_WHAT = "`what`: 0 what is owed, 1 the rate, 2 how many drops can leave bond till the"
        + " budget, NONE without one, 3 how many for half of the rate this year, 4 how many can be denatured, 5 the"
        + " guarantee less the duty for all drops that move";

    private AskedEdges() {
    }

    /** Ten of strength 100 in a vessel of 9999 and in one of 50 at place 3; 30 more went to that one for four days. */
    private static Gaugerhall some() {
        Gaugerhall hall = Scenes.holding(40, 100);
        hall.vessel(3, 50);
        hall.dip(3, 10, 100);
        hall.guarantee(33);
        hall.ship(0, 3, 30, 4);
        return hall;
    }

    // ---- what it is

    @Says(in = "What it is", text = "An object is used for at most 512 calls after it has been made")
    static void the512thCallIsAnswered() {
        Gaugerhall hall = new Gaugerhall();
        for (int call = 1; call <= 511; call++) {
            hall.shares(0, call % 501);
        }
        Check.due("the 512th", 10, hall.shares(0, 0));
    }

    @Says(in = "What it is", text = "a ledger in which each drop made has a place.")
    static void eachDropMadeHasOnePlace() {
        Gaugerhall hall = new Gaugerhall();
        hall.vessel(0, 1);
        hall.run(0, 1, 1, 1, 1);
        ledgerIs("in a vessel", new int[] {1, 1, 0, 0, 0, 0, 0, 0}, hall);
        hall.release(0, 1);
        ledgerIs("PAID", new int[] {1, 0, 0, 1, 0, 0, 0, 0}, hall);
        hall.export(1);
        ledgerIs("EXPORTED", new int[] {1, 0, 0, 0, 0, 0, 1, 0}, hall);
    }

    // ---- promise 18

    @Says(in = "Promise 18", text = "`int day()`: Returns the day.")
    static void day() {
        Gaugerhall hall = new Gaugerhall();
        Check.due("at first", 0, hall.day());
        hall.pass(1);
        Check.due("the next", 1, hall.day());
        hall.pass(60);
        Check.due("60 days later", 61, hall.day());
        Check.thrown("61 days", Check.ARGUMENT, hall, x -> x.pass(61));
        Check.due("the same", 61, hall.day());
        Scenes.passTo(hall, 900);
        Check.due("the last", 900, hall.day());
        Check.thrown("a day more", Check.STATE, hall, x -> x.pass(1));
        Check.due("the last still", 900, hall.day());
    }

    // ---- promise 19

    @Says(in = "Promise 19", text = "`vessel`: its number")
    static void ofVesselNumber() {
        Check.range(Check.INDEX, 0, 3, AskedEdges::some, (x, vessel) -> x.ofVessel(vessel, 0));
        Check.range(Check.INDEX, 0, 3, AskedEdges::some, (x, vessel) -> x.ofVessel(vessel, 4));
    }

    @Says(in = "Promise 19", text = VESSEL_WHAT)
    static void ofVesselWhat() {
        for (int vessel = 0; vessel <= 3; vessel++) {
            int of = vessel;
            Check.range(Check.INDEX, 0, 4, AskedEdges::some, (x, what) -> x.ofVessel(of, what));
        }
    }

    @Says(in = "Promise 19", text = "Returns as told.")
    static void ofVesselReturnsAsTold() {
        int[][] due = {{10, 1000, 100, 0, 9989}, {0, 0, 0, 0, 9999}, {0, 0, 0, 1, 9999}, {10, 1000, 100, 3, 40}};
        for (int vessel = 0; vessel <= 3; vessel++) {
            for (int what = 0; what <= 4; what++) {
                Check.due("ofVessel(" + vessel + ", " + what + ")", due[vessel][what], some().ofVessel(vessel, what));
            }
        }
        Gaugerhall full = some();
        full.dip(3, 50, 960);
        int[] fullDue = {50, 48000, 960, 3, 0};
        for (int what = 0; what <= 4; what++) {
            Check.due("of a full one, " + what, fullDue[what], full.ofVessel(3, what));
        }
    }

    @Says(in = "Promise 19", text = NO_VESSEL + ", or what is out of range")
    static void ofVesselOutOfRange() {
        for (int number : new int[] {-1, 5, Integer.MIN_VALUE, Integer.MAX_VALUE}) {
            Check.refused("of vessel " + number, Check.INDEX, AskedEdges::some, x -> x.ofVessel(number, 0));
            Check.refused("what " + number, Check.INDEX, AskedEdges::some, x -> x.ofVessel(0, number));
            Check.refused("both " + number, Check.INDEX, AskedEdges::some, x -> x.ofVessel(number, number));
        }
        Check.refused("of the next one", Check.INDEX, AskedEdges::some, x -> x.ofVessel(4, 4));
        Check.refused("of none", Check.INDEX, Gaugerhall::new, x -> x.ofVessel(0, 0));
    }

    // ---- promise 20

    @Says(in = "Promise 20", text = "`vessel`: its number")
    static void dropsAnewNumber() {
        Check.range(Check.INDEX, 0, 3, AskedEdges::some, (x, vessel) -> x.dropsAnew(vessel));
    }

    @Says(in = "Promise 20", text = "Returns the drops.")
    static void dropsAnewReturnsTheDrops() {
        int[] due = {1000, 0, 0, 1000};
        for (int vessel = 0; vessel <= 3; vessel++) {
            Check.due("dropsAnew(" + vessel + ")", due[vessel], some().dropsAnew(vessel));
        }
    }

    @Says(in = "Promise 20", text = "Returns the drops of a vessel, all that was told being done again.")
    static void dropsAnewAreTheDropsBehindEachCall() {
        Gaugerhall hall = some();
        hall.arrive(0, 30);
        Check.due("arrived", 4000, hall.dropsAnew(3));
        Check.thrown("no room", Check.STATE, hall, x -> x.run(3, 100, 100, 11, 1));
        Check.due("refused", 4000, hall.dropsAnew(3));
        hall.lose(3, 1, false);
        Check.due("broken", 3900, hall.dropsAnew(3));
        hall.release(3, 1);
        Check.due("left bond", 3800, hall.dropsAnew(3));
        hall.shares(3, 500);
        hall.pass(2);
        Check.due("two days' shares, of 19 and 18", 3763, hall.dropsAnew(3));
        hall.dip(3, 2, 7);
        Check.due("dipped", 14, hall.dropsAnew(3));
        hall.move(0, 1, 3);
        Check.due("moved from", 700, hall.dropsAnew(0));
        Check.due("moved to", 300, hall.dropsAnew(1));
        hall.dip(3, 0, 0);
        Check.due("empty", 0, hall.dropsAnew(3));
    }

    @Says(in = "Promise 20", text = NO_VESSEL)
    static void dropsAnewOfNoVessel() {
        for (int vessel : new int[] {-1, 4, Integer.MIN_VALUE, Integer.MAX_VALUE}) {
            Check.refused("of " + vessel, Check.INDEX, AskedEdges::some, x -> x.dropsAnew(vessel));
        }
        Check.refused("of none", Check.INDEX, Gaugerhall::new, x -> x.dropsAnew(0));
    }

    // ---- promise 21

    @Says(in = "Promise 21", text = "`movement`: its number")
    static void ofMovementNumber() {
        Check.range(Check.INDEX, 0, 2, Scenes::busy, (x, movement) -> x.ofMovement(movement, 0));
        Check.range(Check.INDEX, 0, 2, Scenes::busy, (x, movement) -> x.ofMovement(movement, 3));
    }

    @Says(in = "Promise 21", text = MOVEMENT_WHAT)
    static void ofMovementWhat() {
        for (int movement = 0; movement <= 2; movement++) {
            int of = movement;
            Check.range(Check.INDEX, 0, 3, Scenes::busy, (x, what) -> x.ofMovement(of, what));
        }
    }

    @Says(in = "Promise 21", text = "Returns as told.")
    static void ofMovementReturnsAsTold() {
        int[][] due = {{Gaugerhall.LOST, 100, 90000, 1}, {Gaugerhall.ARRIVED, 100, 90000, 9},
            {Gaugerhall.MOVES, 50, 45000, 60}};
        for (int movement = 0; movement <= 2; movement++) {
            for (int what = 0; what <= 3; what++) {
                String call = "ofMovement(" + movement + ", " + what + ")";
                Check.due(call, due[movement][what], Scenes.busy().ofMovement(movement, what));
            }
        }
    }

    @Says(in = "Promise 21", text = "Throws `IndexOutOfBoundsException` if there is no such movement, or what is out of range")
    static void ofMovementOutOfRange() {
        for (int number : new int[] {-1, 4, Integer.MIN_VALUE, Integer.MAX_VALUE}) {
            Check.refused("of movement " + number, Check.INDEX, Scenes::busy, x -> x.ofMovement(number, 0));
            Check.refused("what " + number, Check.INDEX, Scenes::busy, x -> x.ofMovement(0, number));
            Check.refused("both " + number, Check.INDEX, Scenes::busy, x -> x.ofMovement(number, number));
        }
        Check.refused("of the next one", Check.INDEX, Scenes::busy, x -> x.ofMovement(3, 3));
        Check.refused("of none", Check.INDEX, () -> Scenes.holding(1, 1), x -> x.ofMovement(0, 0));
    }

    // ---- promise 22

    @Says(in = "Promise 22", text = LEDGER_WHAT)
    static void ledgerWhat() {
        Check.range(Check.ARGUMENT, 0, 7, Scenes::busy, (x, what) -> x.ledger(what));
        Check.range(Check.ARGUMENT, 0, 7, Gaugerhall::new, (x, what) -> x.ledger(what));
    }

    @Says(in = "Promise 22", text = "Returns the drops.")
    static void ledgerReturnsTheDrops() {
        Gaugerhall hall = Scenes.holding(100, 100);
        int[] due = {10000, 10000, 0, 0, 0, 0, 0, 0};
        ledgerIs("dipped", due, hall);
        hall.run(1, 10, 100, 8, 100);
        ledgerIs("100 missing from a still", new int[] {10800, 10800, 0, 0, 0, 0, 0, 100}, hall);
        hall.guarantee(100);
        hall.ship(0, 2, 20, 1);
        ledgerIs("2000 move", new int[] {10800, 8800, 2000, 0, 0, 0, 0, 100}, hall);
        hall.release(0, 30);
        ledgerIs("3000 PAID", new int[] {10800, 5800, 2000, 3000, 0, 0, 0, 100}, hall);
        hall.lose(0, 4, true);
        ledgerIs("400 EXCUSED", new int[] {10800, 5400, 2000, 3000, 400, 0, 0, 100}, hall);
        hall.lose(0, 5, false);
        ledgerIs("500 MISSING", new int[] {10800, 4900, 2000, 3000, 400, 500, 0, 100}, hall);
        hall.export(600);
        ledgerIs("600 EXPORTED", new int[] {10800, 4900, 2000, 2400, 400, 500, 600, 100}, hall);
        hall.pass(2);
        ledgerIs("2000 LOST", new int[] {10800, 4900, 0, 2400, 400, 2500, 600, 100}, hall);
    }

    @Says(in = "Promise 22", text = "Returns the drops.")
    static void theMostThatCanBeMadeDoesNotWrapAround() {
        Gaugerhall hall = Scenes.holdingAtRate(99, 0, 0);
        for (int i = 0; i < 59; i++) {
            hall.dip(0, 9999, 960);
            Check.due("duty of a full one", 950304, hall.lose(0, 9999, false));
        }
        for (int i = 0; i < 60; i++) {
            hall.run(0, 9999, 300, 9999, 300);
            hall.move(0, 1, 9999);
            Check.due("duty of the strongest run", 296970, hall.lose(1, 9999, false));
        }
        int most = 59 * 9599040 + 60 * 2999700;
        ledgerIs("all MISSING", new int[] {most, 0, 0, 0, 0, most, 0, 0}, hall);
        int owed = 59 * 950304 + 60 * 296970;
        Check.due("owed", owed, hall.duty(0));
        Check.due("owed on day 30", owed + owed / 100, hall.pass(29));
    }

    private static void ledgerIs(String when, int[] due, Gaugerhall hall) {
        for (int what = 0; what < due.length; what++) {
            Check.due("ledger(" + what + "), " + when, due[what], hall.ledger(what));
        }
    }

    @Says(in = "Promise 22", text = "Throws `IllegalArgumentException` if what is out of range")
    static void ledgerOutOfRange() {
        for (int what : new int[] {-1, 8, 9, Integer.MIN_VALUE, Integer.MAX_VALUE}) {
            Check.refused("ledger(" + what + ")", Check.ARGUMENT, AskedEdges::some, x -> x.ledger(what));
        }
    }

    // ---- promise 23

    @Says(in = "Promise 23", text = DUTY_WHAT)
    static void dutyWhat() {
        Check.range(Check.ARGUMENT, 0, 5, Scenes::busy, (x, what) -> x.duty(what));
        Check.range(Check.ARGUMENT, 0, 5, Gaugerhall::new, (x, what) -> x.duty(what));
    }

    @Says(in = "Promise 23", text = "Returns as told.")
    static void dutyReturnsAsTold() {
        Gaugerhall hall = Scenes.holding(100, 100);
        dutyIs("at first", new int[] {0, 10, -1, 1000000, 0, 0}, hall);
        hall.permit(700);
        hall.denature(0, 2);
        dutyIs("500 can be denatured still", new int[] {0, 10, -1, 1000000, 500, 0}, hall);
        hall.guarantee(21);
        hall.ship(0, 2, 20, 1);
        dutyIs("1 more than the duty for what moves", new int[] {0, 10, -1, 1000000, 500, 1}, hall);
        hall.budget(1, 30, 4000);
        hall.release(0, 10);
        dutyIs("1000 left bond", new int[] {5, 10, 3000, 999000, 500, 1}, hall);
        hall.pass(1);
        dutyIs("the budget came", new int[] {5, 30, -1, 999000, 500, 21 - 60}, hall);
        hall.pass(1);
        dutyIs("2000 are LOST", new int[] {65, 30, -1, 999000, 500, 21}, hall);
    }

    @Says(in = "Promise 23", text = "NONE without one")
    static void noneWithoutABudget() {
        Gaugerhall hall = new Gaugerhall();
        Check.due("without one", Gaugerhall.NONE, hall.duty(2));
        hall.budget(1, 1, 0);
        Check.due("with one that lets none leave", 0, hall.duty(2));
        hall.pass(1);
        Check.due("when it has come", Gaugerhall.NONE, hall.duty(2));
    }

    @Says(in = "Promise 23", text = "Returns as told.")
    static void dutyBelow0() {
        Check.due("owed", -9, Scenes.owingBelowNothing(9).duty(0));
        Gaugerhall hall = some();
        hall.budget(1, 99, 0);
        hall.pass(1);
        Check.due("33 less 297", 33 - 297, hall.duty(5));
    }

    private static void dutyIs(String when, int[] due, Gaugerhall hall) {
        for (int what = 0; what < due.length; what++) {
            Check.due("duty(" + what + "), " + when, due[what], hall.duty(what));
        }
    }

    @Says(in = "Promise 23", text = "Throws `IllegalArgumentException` if what is out of range")
    static void dutyOutOfRange() {
        for (int what : new int[] {-1, 6, 7, Integer.MIN_VALUE, Integer.MAX_VALUE}) {
            Check.refused("duty(" + what + ")", Check.ARGUMENT, AskedEdges::some, x -> x.duty(what));
        }
    }
}
