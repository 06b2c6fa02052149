/** The section 'Terms': movements, what a day that begins does, what refused calls leave, the constants. */
final class TermsOfMovementsEdges {
    private static final String GUARANTEE = "must be at least the duty for the sum of all drops that move then, these with"
        + " them.";
    private static final String TWO_HUNDREDTH = "what is less is EXCUSED, if it is at most a two hundredth of the drops"
        + " that went, otherwise MISSING.";
    private static final String LATE = "When the day comes that is more than so many days behind the one on which it"
        + " went, and it has not arrived, all of it is MISSING, and it is LOST.";
    private static final String UNCHANGED = "A call that throws an exception changes nothing.";

    private TermsOfMovementsEdges() {
    }

    /** Movement 0, of this volume and of strength 1, goes to vessel 2, for a day. */
    private static Gaugerhall sent(int volume) {
        return sentFor(volume, 1);
    }

    private static Gaugerhall sentFor(int volume, int days) {
        Gaugerhall hall = Scenes.holding(9999, 1);
        hall.guarantee(99);
        hall.ship(0, 2, volume, days);
        return hall;
    }

    // ---- movements

    @Says(in = "Terms", text = "Movements are numbered from 0, at most 30")
    static void movementsAreNumberedFrom0To29() {
        Gaugerhall hall = thirtyMovements();
        for (int number = 0; number < 30; number++) {
            Check.due("volume of " + number, number + 1, hall.ofMovement(number, 1));
        }
        Check.Scene thirty = TermsOfMovementsEdges::thirtyMovements;
        Check.refused("the 31st", Check.STATE, thirty, x -> x.ship(0, 2, 1, 1));
        Check.refused("number -1", Check.INDEX, thirty, x -> x.ofMovement(-1, 0));
        Check.refused("number 30", Check.INDEX, thirty, x -> x.ofMovement(30, 0));
        Check.Scene ended = () -> {
            Gaugerhall all = thirtyMovements();
            all.arrive(29, 30);
            all.pass(2);
            return all;
        };
        Check.refused("the 31st, when none moves any more", Check.STATE, ended, x -> x.ship(0, 2, 1, 1));
    }

    private static Gaugerhall thirtyMovements() {
        Gaugerhall hall = Scenes.holding(9999, 1);
        hall.guarantee(99);
        for (int number = 0; number < 30; number++) {
            Check.due("number", number, hall.ship(0, 2, number + 1, 1));
        }
        return hall;
    }

    @Says(in = "Terms", text = "some volume, with its drops, goes from a vessel to one at another place")
    static void itGoesToOneAtAnotherPlace() {
        Gaugerhall hall = Check.taken("to another place", () -> Scenes.holding(10, 3), x -> x.ship(0, 2, 4, 1));
        Check.due("volume that went", 4, hall.ofMovement(0, 1));
        Check.due("drops that went", 12, hall.ofMovement(0, 2));
        Check.due("volume that stays", 6, hall.ofVessel(0, 0));
        Check.due("drops that stay", 18, hall.ofVessel(0, 1));
        Check.due("nothing is there yet", 0, hall.ofVessel(2, 0));
        Check.due("drops that move", 12, hall.ledger(2));
        Check.refused("to one at its place", Check.STATE, () -> Scenes.holding(10, 3), x -> x.ship(0, 1, 4, 1));
        Check.refused("to itself", Check.STATE, () -> Scenes.holding(10, 3), x -> x.ship(0, 0, 4, 1));
    }

    @Says(in = "Terms", text = "The guarantee, 0 at first")
    static void theGuaranteeIs0AtFirst() {
        Check.due("the guarantee less what moves", 0, new Gaugerhall().duty(5));
        Check.Scene scene = () -> Scenes.holding(9999, 1);
        Check.taken("99 drops, of no duty", scene, x -> x.ship(0, 2, 99, 1));
        Check.refused("100 drops, of a duty of 1", Check.STATE, scene, x -> x.ship(0, 2, 100, 1));
    }

    @Says(in = "Terms", text = GUARANTEE)
    static void theGuaranteeIsForTheSumOfAllThatMoves() {
        Check.Scene scene = () -> {
            Gaugerhall hall = Scenes.holding(9999, 1);
            hall.guarantee(3);
            hall.ship(0, 2, 150, 1);
            hall.ship(0, 2, 150, 9);
            return hall;
        };
        Check.due("duty of 300 is 3", 0, scene.make().duty(5));
        Check.due("399 have one of 3", 0, Check.taken("99 more", scene, x -> x.ship(0, 2, 99, 1)).duty(5));
        Check.refused("400 have one of 4", Check.STATE, scene, x -> x.ship(0, 2, 100, 1));
        Check.Scene arrived = () -> {
            Gaugerhall hall = scene.make();
            hall.arrive(0, 1);
            return hall;
        };
        Check.taken("249 more, when 150 do not move any more", arrived, x -> x.ship(0, 2, 249, 1));
        Check.refused("250 more, when 150 do not move any more", Check.STATE, arrived, x -> x.ship(0, 2, 250, 1));
        Check.Scene lost = () -> {
            Gaugerhall hall = scene.make();
            hall.pass(2);
            return hall;
        };
        Check.taken("249 more, when 150 are LOST", lost, x -> x.ship(0, 2, 249, 1));
        Check.refused("250 more, when 150 are LOST", Check.STATE, lost, x -> x.ship(0, 2, 250, 1));
    }

    @Says(in = "Terms", text = GUARANTEE)
    static void theGuaranteeIsForTheRateOfToday() {
        Check.Scene dearer = () -> {
            Gaugerhall hall = sentFor(1000, 60);
            hall.guarantee(20);
            hall.budget(1, 20, 0);
            hall.pass(1);
            return hall;
        };
        Check.due("just the duty by the new rate", 0, dearer.make().duty(5));
        Check.taken("49 more have none", dearer, x -> x.ship(0, 2, 49, 1));
        Check.refused("50 more have one of 1", Check.STATE, dearer, x -> x.ship(0, 2, 50, 1));
    }

    @Says(in = "Terms", text = "When it arrives, a volume is told, at most that which went")
    static void atMostTheVolumeThatWentArrives() {
        Check.Scene scene = () -> sent(100);
        Check.due("all", 100, Check.taken("100", scene, x -> x.arrive(0, 100)).ofVessel(2, 0));
        Check.due("nothing", 0, Check.taken("0", scene, x -> x.arrive(0, 0)).ofVessel(2, 0));
        Check.refused("101", Check.ARGUMENT, scene, x -> x.arrive(0, 101));
        Check.refused("-1", Check.ARGUMENT, scene, x -> x.arrive(0, -1));
    }

    @Says(in = "Terms", text = "its drops are the part of the drops that is this volume")
    static void thePartThatArrivesIsRoundedDown() {
        int[] due = {0, 2, 4, 7};
        for (int volume = 0; volume <= 3; volume++) {
            Gaugerhall hall = Scenes.sevenInThree();
            hall.ship(0, 2, 3, 1);
            Check.due("less than 7", 7 - due[volume], hall.arrive(0, volume));
            Check.due(volume + " of 3 arrive", due[volume], hall.ofVessel(2, 1));
        }
    }

    @Says(in = "Terms", text = TWO_HUNDREDTH)
    static void upToATwoHundredthLessIsExcused() {
        int[][] arrivals = {{1, 1, 0, 0}, {1, 0, 0, 1}, {199, 199, 0, 0}, {199, 198, 0, 1}, {200, 199, 1, 0},
            {200, 198, 0, 2}, {399, 398, 1, 0}, {399, 397, 0, 2}, {400, 398, 2, 0}, {400, 397, 0, 3}, {9800, 9751, 49, 0},
            {9800, 9750, 0, 50}, {400, 0, 0, 400}};
        for (int[] a : arrivals) {
            Gaugerhall hall = sent(a[0]);
            String call = a[1] + " of " + a[0];
            Check.due(call, a[3], hall.arrive(0, a[1]));
            Check.due(call + ", EXCUSED", a[2], hall.ledger(4));
            Check.due(call + ", MISSING", a[3], hall.ledger(5));
            Check.due(call + ", owed", a[3] / 100, hall.duty(0));
        }
    }

    @Says(in = "Terms", text = TWO_HUNDREDTH)
    static void theTwoHundredthIsOfTheDropsThatWent() {
        Gaugerhall few = Scenes.holding(100, 0);
        few.dip(1, 100, 2);
        few.move(1, 0, 100);
        few.guarantee(2);
        few.ship(0, 2, 200, 1);
        Check.due("200 drops went in 200, 1 less", 0, few.arrive(0, 199));
        Gaugerhall many = Scenes.holding(100, 2);
        many.guarantee(2);
        many.ship(0, 2, 100, 1);
        Check.due("200 drops went in 100, 2 less", 2, many.arrive(0, 99));
    }

    @Says(in = "Terms", text = LATE)
    static void itIsLostBehindItsLastDay() {
        for (int days : new int[] {1, 2, 59, 60}) {
            Gaugerhall hall = sentFor(300, days);
            hall.pass(days);
            Check.due("on its last day", Gaugerhall.MOVES, hall.ofMovement(0, 0));
            Check.due("MISSING", 0, hall.ledger(5));
            hall.pass(1);
            Check.due("on the day behind it", Gaugerhall.LOST, hall.ofMovement(0, 0));
            Check.due("MISSING", 300, hall.ledger(5));
            Check.due("drops that move", 0, hall.ledger(2));
            Check.due("owed", 3, hall.duty(0));
            hall.pass(1);
            Check.due("but once", 300, hall.ledger(5));
        }
    }

    @Says(in = "Terms", text = LATE)
    static void daysAreCountedFromTheOneOnWhichItWent() {
        Gaugerhall hall = Scenes.holding(9999, 1);
        hall.pass(7);
        hall.ship(0, 2, 10, 3);
        hall.pass(3);
        Check.due("on day 10", Gaugerhall.MOVES, hall.ofMovement(0, 0));
        hall.pass(1);
        Check.due("on day 11", Gaugerhall.LOST, hall.ofMovement(0, 0));
    }

    @Says(in = "Terms", text = LATE)
    static void whatHasArrivedIsNotLost() {
        for (int volume : new int[] {0, 1, 300}) {
            Gaugerhall hall = sent(300);
            hall.pass(1);
            Check.due("MISSING on its last day", volume == 300 ? 0 : 300 - volume, hall.arrive(0, volume));
            int missing = hall.ledger(5);
            hall.pass(1);
            Check.due("behind it", Gaugerhall.ARRIVED, hall.ofMovement(0, 0));
            Check.due("MISSING behind it", missing, hall.ledger(5));
        }
    }

    @Says(in = "Terms", text = LATE)
    static void itCanStillBeMovingOnTheLastDayOfAll() {
        Gaugerhall hall = sentOnDay899();
        Check.due("the day behind which it is LOST", 900, hall.ofMovement(0, 3));
        Check.due("the day behind which the other is LOST", 959, hall.ofMovement(1, 3));
        hall.pass(1);
        Check.due("on day 900", Gaugerhall.MOVES, hall.ofMovement(0, 0));
        Check.refused("to day 901", Check.STATE, TermsOfMovementsEdges::sentOnDay899, x -> x.pass(2));
    }

    private static Gaugerhall sentOnDay899() {
        Gaugerhall hall = Scenes.holding(9999, 1);
        Scenes.passTo(hall, 899);
        hall.ship(0, 2, 10, 1);
        hall.ship(0, 2, 10, 60);
        return hall;
    }

    // ---- a day that begins

    @Says(in = "Terms", text = "When a day begins: the rate of a budget comes, if it is that day; movements are LOST, by numbers")
    static void theRateComesAheadOfWhatIsLost() {
        int[] budgetDays = {1, 2, 3};
        int[] due = {20, 20, 10};
        for (int i = 0; i < budgetDays.length; i++) {
            Gaugerhall hall = sent(1000);
            hall.budget(budgetDays[i], 20, 0);
            Check.due("LOST on day 2, the rate coming on day " + budgetDays[i], due[i], hall.pass(3));
        }
    }

    @Says(in = "Terms", text = "movements are LOST, by numbers; shares are taken, by vessels; then what is owed grows, as told.")
    static void whatIsLostComesAheadOfGrowing() {
        Gaugerhall same = owingAndSent(29);
        Check.due("99 for what is LOST, and 1, grow on day 30", 101, same.pass(30));
        Gaugerhall late = owingAndSent(30);
        Check.due("LOST on day 31", 1, late.pass(30));
        Check.due("not grown any more", 100, late.pass(1));
    }

    /** 1 is owed, and drops with a duty of 99 are sent. */
    private static Gaugerhall owingAndSent(int days) {
        Gaugerhall hall = Scenes.owing(1);
        hall.guarantee(99);
        hall.ship(0, 2, 99, days);
        return hall;
    }

    @Says(in = "Terms", text = "the rate of a budget comes, if it is that day")
    static void allOfADayInOrder() {
        Gaugerhall hall = Scenes.holding(9999, 10);
        hall.guarantee(999);
        hall.ship(0, 2, 1000, 29);
        hall.ship(0, 2, 500, 29);
        hall.budget(30, 99, 0);
        hall.shares(0, 500);
        Check.due("990 and 495, and a hundredth of both", 1485 + 14, hall.pass(30));
        Check.due("MISSING", 15000, hall.ledger(5));
        Check.due("EXCUSED", 99990 - 15000 - hall.ofVessel(0, 1), hall.ledger(4));
    }

    // ---- refused calls

    @Says(in = "Terms", text = UNCHANGED)
    static void refusedCallsOfVesselsChangeNothing() {
        Check.Scene busy = Scenes::busy;
        Check.refused("vessel", Check.ARGUMENT, busy, x -> x.vessel(0, 0));
        Check.refused("shares", Check.ARGUMENT, busy, x -> x.shares(0, 501));
        Check.refused("run of too many drops", Check.STATE, busy, x -> x.run(3, 1, 1, 2, 1));
        Check.refused("run without room", Check.STATE, busy, x -> x.run(3, 9999, 300, 501, 1));
        Check.refused("move to another place", Check.STATE, busy, x -> x.move(0, 2, 1));
        Check.refused("move of too much", Check.STATE, busy, x -> x.move(1, 0, 194));
        Check.refused("move without room", Check.STATE, busy, x -> x.move(0, 1, 808));
        Check.refused("dip", Check.ARGUMENT, busy, x -> x.dip(3, 501, 1));
        Check.refused("lose", Check.STATE, busy, x -> x.lose(1, 194, false));
    }

    @Says(in = "Terms", text = UNCHANGED)
    static void refusedCallsOfDutyChangeNothing() {
        Check.Scene busy = Scenes::busy;
        Check.refused("release of too much", Check.STATE, busy, x -> x.release(2, 91));
        Check.refused("release above the quota", Check.STATE, busy, x -> x.release(0, 4));
        Check.refused("permit", Check.ARGUMENT, busy, x -> x.permit(-1));
        Check.refused("denature of too much", Check.STATE, busy, x -> x.denature(3, 1));
        Check.refused("denature above the permit", Check.STATE, busy, x -> x.denature(0, 6));
        Check.refused("export", Check.STATE, busy, x -> x.export(x.ledger(3) + 1));
        Check.refused("pay", Check.STATE, busy, x -> x.pay(x.duty(0) + 1));
        Check.refused("budget", Check.STATE, busy, x -> Calls.budget(x, 4, 99, 1));
        Check.refused("budget of a day gone by", Check.ARGUMENT, Scenes::withoutBudget, x -> Calls.budget(x, 60, 99, 1));
    }

    @Says(in = "Terms", text = UNCHANGED)
    static void refusedCallsOfMovementsChangeNothing() {
        Check.Scene busy = Scenes::busy;
        Check.refused("guarantee", Check.STATE, busy, x -> x.guarantee(449));
        Check.refused("ship to its place", Check.STATE, busy, x -> x.ship(0, 1, 1, 1));
        Check.refused("ship of too much", Check.STATE, busy, x -> x.ship(2, 0, 91, 1));
        Check.refused("ship above the guarantee", Check.STATE, busy, x -> x.ship(0, 2, 600, 1));
        Check.refused("arrive of a LOST one", Check.STATE, busy, x -> x.arrive(0, 1));
        Check.refused("arrive of one that has arrived", Check.STATE, busy, x -> x.arrive(1, 1));
        Check.refused("arrive of more than went", Check.ARGUMENT, busy, x -> x.arrive(2, 51));
        Check.refused("pass", Check.ARGUMENT, busy, x -> x.pass(61));
    }

    @Says(in = "Terms", text = UNCHANGED)
    static void refusedQuestionsChangeNothing() {
        Check.Scene busy = Scenes::busy;
        Check.refused("ofVessel", Check.INDEX, busy, x -> x.ofVessel(4, 0));
        Check.refused("ofVessel of what", Check.INDEX, busy, x -> x.ofVessel(0, 5));
        Check.refused("dropsAnew", Check.INDEX, busy, x -> x.dropsAnew(4));
        Check.refused("ofMovement", Check.INDEX, busy, x -> x.ofMovement(3, 0));
        Check.refused("ofMovement of what", Check.INDEX, busy, x -> x.ofMovement(0, 4));
        Check.refused("ledger", Check.ARGUMENT, busy, x -> x.ledger(8));
        Check.refused("duty", Check.ARGUMENT, busy, x -> x.duty(6));
    }

    @Says(in = "Terms", text = "If several apply, the one that the throws clause names first is thrown.")
    static void whichExceptionOfMovementsCalls() {
        Check.Scene busy = Scenes::busy;
        Check.refused("guarantee, Argument and State", Check.ARGUMENT, busy, x -> x.guarantee(-1));
        Check.refused("ship, Index and volume", Check.INDEX, busy, x -> x.ship(4, 2, 0, 1));
        Check.refused("ship, Index of the other and days", Check.INDEX, busy, x -> x.ship(0, 4, 1, 61));
        Check.refused("ship, Index and State", Check.INDEX, busy, x -> x.ship(-1, -1, 9999, 1));
        Check.refused("ship, volume and one place", Check.ARGUMENT, busy, x -> x.ship(0, 1, 0, 1));
        Check.refused("ship, days and one place", Check.ARGUMENT, busy, x -> x.ship(0, 1, 1, 0));
        Check.refused("ship, days and not so much", Check.ARGUMENT, busy, x -> x.ship(0, 2, 9999, 61));
        Check.refused("arrive, Index and Argument", Check.INDEX, busy, x -> x.arrive(3, -1));
        Check.refused("arrive, Argument and it is LOST", Check.ARGUMENT, busy, x -> x.arrive(0, 101));
        Check.refused("arrive, Argument and it has arrived", Check.ARGUMENT, busy, x -> x.arrive(1, -1));
        Check.Scene lastDay = () -> {
            Gaugerhall hall = Scenes.busy();
            Scenes.passTo(hall, 900);
            return hall;
        };
        Check.refused("pass, Argument and above 900", Check.ARGUMENT, lastDay, x -> x.pass(61));
        Check.refused("budget, Argument on the last day", Check.ARGUMENT, lastDay, x -> Calls.budget(x, 901, 1, 1));
    }

    // ---- constants

    @Says(in = "Terms", text = "The constants: `NONE = -1`: There is none.")
    static void none() {
        Check.due("NONE", -1, Gaugerhall.NONE);
        Check.due("the quota without a budget", -1, new Gaugerhall().duty(2));
    }

    @Says(in = "Terms", text = "`MOVES = 0, ARRIVED = 1, LOST = 2`: What movements are.")
    static void whatMovementsAre() {
        Check.due("MOVES", 0, Gaugerhall.MOVES);
        Check.due("ARRIVED", 1, Gaugerhall.ARRIVED);
        Check.due("LOST", 2, Gaugerhall.LOST);
        int[] due = {2, 1, 0};
        for (int number = 0; number < 3; number++) {
            Check.due("movement " + number, due[number], Scenes.busy().ofMovement(number, 0));
        }
    }
}
