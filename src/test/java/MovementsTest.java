/** Promises 14 to 17: the guarantee, movements, and days that begin. */
public final class MovementsTest {
    public static void main(String[] args) {
        guarantee();
        guaranteeRefuses();
        ship();
        shipNeedsTheGuarantee();
        shipRefuses();
        shipsAreCounted();
        arrive();
        arriveWithLess();
        arriveRefuses();
        late();
        pass();
        owedGrows();
        shares();
        whatADayDoesInOrder();
        passRefuses();
        Check.end();
    }

    /** Vessel 0 holds 3000 of strength 900 at place 0; 1 is at place 1, 2 at place 2; the guarantee is 9000. */
    private static Gaugerhall filled() {
        Gaugerhall hall = new Gaugerhall();
        hall.vessel(0, 9999);
        hall.vessel(1, 9999);
        hall.vessel(2, 300);
        hall.run(0, 9999, 300, 3000, 900);
        hall.guarantee(9000);
        return hall;
    }

    /** 200 of strength 900, duty 1800, move to vessel 1, and 100, duty 900, to vessel 2. */
    private static Gaugerhall underWay() {
        Gaugerhall hall = filled();
        hall.ship(0, 1, 200, 5);
        hall.ship(0, 2, 100, 60);
        return hall;
    }

    private static void guarantee() {
        Gaugerhall hall = new Gaugerhall();
        Check.due("guarantee(9999999)", 0, hall.guarantee(9999999));
        Check.due("guarantee(0)", 9999999, hall.guarantee(0));
        Check.due("guarantee(5)", 0, hall.guarantee(5));
        Check.due("duty(5)", 5, hall.duty(5));
        Gaugerhall moving = underWay();
        Check.due("just the duty for all that moves", 9000, moving.guarantee(2700));
        Check.due("duty(5)", 0, moving.duty(5));
        moving.arrive(0, 200);
        Check.due("duty(5)", 1800, moving.duty(5));
        Check.due("less, as less moves", 2700, moving.guarantee(900));
        moving.arrive(1, 0);
        Check.due("nothing moves", 900, moving.guarantee(0));
    }

    private static void guaranteeRefuses() {
        Check.refused("guarantee(-1)", Check.ARGUMENT, MovementsTest::underWay, x -> x.guarantee(-1));
        Check.refused("guarantee(10000000)", Check.ARGUMENT, MovementsTest::underWay, x -> x.guarantee(10000000));
        Check.refused("guarantee(2699)", Check.STATE, MovementsTest::underWay, x -> x.guarantee(2699));
        Check.refused("guarantee(0)", Check.STATE, MovementsTest::underWay, x -> x.guarantee(0));
        Check.refused("more, yet too little by a new rate", Check.STATE, MovementsTest::dearer, x -> x.guarantee(17819));
        Gaugerhall dear = dearer();
        Check.due("duty(5), below 0", 9000 - 17820, dear.duty(5));
        Check.due("enough by the new rate", 9000, dear.guarantee(17820));
    }

    /** As under way, but by a rate of 66, so that the guarantee is below the duty of 17820. */
    private static Gaugerhall dearer() {
        Gaugerhall hall = underWay();
        hall.budget(1, 66, 0);
        hall.pass(1);
        return hall;
    }

    private static void ship() {
        Gaugerhall hall = filled();
        hall.pass(7);
        Check.due("the first", 0, hall.ship(0, 1, 200, 5));
        Check.due("the second", 1, hall.ship(0, 2, 1, 60));
        Check.due("the third", 2, hall.ship(0, 1, 3, 1));
        int[][] due = {{0, 200, 180000, 12}, {0, 1, 900, 67}, {0, 3, 2700, 8}};
        for (int i = 0; i < due.length; i++) {
            for (int what = 0; what < 4; what++) {
                Check.due("ofMovement(" + i + ", " + what + ")", due[i][what], hall.ofMovement(i, what));
            }
        }
        Check.due("volume left", 2796, hall.ofVessel(0, 0));
        Check.due("drops left", 2516400, hall.ofVessel(0, 1));
        Check.due("nothing has come", 0, hall.ofVessel(1, 0));
        Check.due("drops that move", 183600, hall.ledger(2));
        Check.due("drops in vessels", 2516400, hall.ledger(1));
        Check.due("owed", 0, hall.duty(0));
        Check.due("more than the vessel there could hold", 3, hall.ship(0, 2, 301, 1));
    }

    private static void shipNeedsTheGuarantee() {
        Gaugerhall hall = filled();
        hall.guarantee(18);
        hall.dip(0, 9999, 1);
        hall.ship(0, 1, 950, 1);
        Check.due("950 have a duty of 9", 9, hall.duty(5));
        hall.ship(0, 1, 949, 1);
        Check.due("1899 have one of 18", 0, hall.duty(5));
        Check.refused("1900 have one of 19", Check.STATE, MovementsTest::justEnough, x -> x.ship(0, 1, 1, 1));
        Gaugerhall again = justEnough();
        again.arrive(1, 949);
        Check.due("when one has arrived", 2, again.ship(0, 1, 949, 1));
        Gaugerhall lost = justEnough();
        lost.pass(2);
        Check.due("when both are LOST", 2, lost.ship(0, 1, 1899, 1));
    }

    private static Gaugerhall justEnough() {
        Gaugerhall hall = filled();
        hall.guarantee(18);
        hall.dip(0, 9999, 1);
        hall.ship(0, 1, 950, 1);
        hall.ship(0, 1, 949, 1);
        return hall;
    }

    private static void shipRefuses() {
        Check.refused("from -1", Check.INDEX, MovementsTest::underWay, x -> x.ship(-1, 1, 1, 1));
        Check.refused("from 3", Check.INDEX, MovementsTest::underWay, x -> x.ship(3, 1, 1, 1));
        Check.refused("to -1", Check.INDEX, MovementsTest::underWay, x -> x.ship(0, -1, 1, 1));
        Check.refused("to 3", Check.INDEX, MovementsTest::underWay, x -> x.ship(0, 3, 0, 0));
        Check.refused("volume 0", Check.ARGUMENT, MovementsTest::underWay, x -> x.ship(0, 1, 0, 1));
        Check.refused("volume -1", Check.ARGUMENT, MovementsTest::underWay, x -> x.ship(0, 1, -1, 1));
        Check.refused("days 0", Check.ARGUMENT, MovementsTest::underWay, x -> x.ship(0, 1, 1, 0));
        Check.refused("days 61", Check.ARGUMENT, MovementsTest::underWay, x -> x.ship(0, 1, 1, 61));
        Check.refused("volume 0 to itself", Check.ARGUMENT, MovementsTest::underWay, x -> x.ship(0, 0, 0, 1));
        Check.refused("days 61 of too much", Check.ARGUMENT, MovementsTest::underWay, x -> x.ship(0, 1, 9999, 61));
        Check.refused("to itself", Check.STATE, MovementsTest::underWay, x -> x.ship(0, 0, 1, 1));
        Check.refused("at one place", Check.STATE, MovementsTest::neighbours, x -> x.ship(0, 3, 1, 1));
        Check.refused("too much", Check.STATE, MovementsTest::underWay, x -> x.ship(0, 1, 2701, 1));
        Check.refused("far too much", Check.STATE, MovementsTest::underWay, x -> x.ship(0, 1, Integer.MAX_VALUE, 1));
        Check.refused("from an empty one", Check.STATE, MovementsTest::underWay, x -> x.ship(1, 0, 1, 1));
        Check.refused("the guarantee is too small", Check.STATE, MovementsTest::underWay, x -> x.ship(0, 1, 701, 1));
    }

    private static Gaugerhall neighbours() {
        Gaugerhall hall = underWay();
        hall.vessel(0, 100);
        return hall;
    }

    private static Gaugerhall thirtyMovements() {
        Gaugerhall hall = filled();
        for (int i = 0; i < 30; i++) {
            hall.ship(0, 1, 1, 1 + i);
            try {
                hall.ship(0, 1, 1000, 1);
                Check.complain("the guarantee is too small");
            } catch (IllegalStateException e) {
                hall.arrive(i, i % 2);
            }
        }
        return hall;
    }

    private static void shipsAreCounted() {
        Check.due("the thirtieth", 30, thirtyMovements().ofMovement(29, 3));
        Check.refused("the 31st", Check.STATE, MovementsTest::thirtyMovements, x -> x.ship(0, 1, 1, 1));
        Check.refused("the 31st of 0", Check.ARGUMENT, MovementsTest::thirtyMovements, x -> x.ship(0, 1, 0, 1));
        Check.refused("the 31st to nowhere", Check.INDEX, MovementsTest::thirtyMovements, x -> x.ship(0, 4, 0, 1));
    }

    private static void arrive() {
        Gaugerhall hall = underWay();
        Check.due("all of it", 0, hall.arrive(0, 200));
        Check.due("it has arrived", Gaugerhall.ARRIVED, hall.ofMovement(0, 0));
        Check.due("volume there", 200, hall.ofVessel(1, 0));
        Check.due("drops there", 180000, hall.ofVessel(1, 1));
        Check.due("the volume that went", 200, hall.ofMovement(0, 1));
        Check.due("the drops that went", 180000, hall.ofMovement(0, 2));
        Check.due("drops that move", 90000, hall.ledger(2));
        Check.due("the other moves", Gaugerhall.MOVES, hall.ofMovement(1, 0));
        hall.dip(2, 200, 100);
        Check.due("with just room, ahead of shrinking", 0, hall.arrive(1, 100));
        Check.due("100 of 900 to 200 of 100", 292, hall.ofVessel(2, 0));
        Check.due("drops there", 110000, hall.ofVessel(2, 1));
        Check.due("owed", 0, hall.duty(0));
    }

    private static void arriveWithLess() {
        Gaugerhall hall = filled();
        hall.ship(0, 1, 200, 5);
        hall.ship(0, 1, 199, 5);
        Check.due("a two hundredth less", 0, hall.arrive(0, 199));
        Check.due("EXCUSED", 900, hall.ledger(4));
        Check.due("MISSING", 0, hall.ledger(5));
        Check.due("more than a two hundredth less", 900, hall.arrive(1, 198));
        Check.due("EXCUSED", 900, hall.ledger(4));
        Check.due("MISSING", 900, hall.ledger(5));
        Check.due("owed", 9, hall.duty(0));
        Check.due("volume there", 397, hall.ofVessel(1, 0));
        Check.due("drops there", 357300, hall.ofVessel(1, 1));

        Gaugerhall nothing = underWay();
        Check.due("nothing of it", 180000, nothing.arrive(0, 0));
        Check.due("it has arrived", Gaugerhall.ARRIVED, nothing.ofMovement(0, 0));
        Check.due("owed", 1800, nothing.duty(0));
        Check.due("volume there", 0, nothing.ofVessel(1, 0));
        Check.due("never made", 0, nothing.ledger(7));

        Gaugerhall odd = filled();
        odd.dip(0, 2, 2);
        odd.run(0, 10, 2, 1, 3);
        odd.ship(0, 1, 3, 1);
        Check.due("two thirds of 7 are 4", 3, odd.arrive(0, 2));
        Check.due("drops there", 4, odd.ofVessel(1, 1));
    }

    /** Movement 0 is LOST, 1 has arrived, 2 moves to vessel 2, which has room for 99. */
    private static Gaugerhall ended() {
        Gaugerhall hall = filled();
        hall.ship(0, 1, 10, 1);
        hall.ship(0, 1, 10, 1);
        hall.arrive(1, 10);
        hall.pass(2);
        hall.ship(0, 2, 100, 60);
        hall.dip(2, 201, 10);
        return hall;
    }

    private static void arriveRefuses() {
        Check.refused("arrive(-1, 0)", Check.INDEX, MovementsTest::ended, x -> x.arrive(-1, 0));
        Check.refused("arrive(3, 0)", Check.INDEX, MovementsTest::ended, x -> x.arrive(3, 0));
        Check.refused("arrive(3, -1)", Check.INDEX, MovementsTest::ended, x -> x.arrive(3, -1));
        Check.refused("volume -1", Check.ARGUMENT, MovementsTest::ended, x -> x.arrive(2, -1));
        Check.refused("more than went", Check.ARGUMENT, MovementsTest::ended, x -> x.arrive(2, 101));
        Check.refused("more than went of a LOST one", Check.ARGUMENT, MovementsTest::ended, x -> x.arrive(0, 11));
        Check.refused("-1 of one that has arrived", Check.ARGUMENT, MovementsTest::ended, x -> x.arrive(1, -1));
        Check.refused("a LOST one", Check.STATE, MovementsTest::ended, x -> x.arrive(0, 10));
        Check.refused("nothing of a LOST one", Check.STATE, MovementsTest::ended, x -> x.arrive(0, 0));
        Check.refused("one that has arrived", Check.STATE, MovementsTest::ended, x -> x.arrive(1, 10));
        Check.refused("no room", Check.STATE, MovementsTest::ended, x -> x.arrive(2, 100));
        Gaugerhall hall = ended();
        Check.due("less, for which there is room", 900, hall.arrive(2, 99));
    }

    private static void late() {
        Gaugerhall hall = underWay();
        hall.pass(5);
        Check.due("on its last day", Gaugerhall.MOVES, hall.ofMovement(0, 0));
        hall.pass(1);
        Check.due("behind it", Gaugerhall.LOST, hall.ofMovement(0, 0));
        Check.due("MISSING", 180000, hall.ledger(5));
        Check.due("owed", 1800, hall.duty(0));
        Check.due("the other moves", Gaugerhall.MOVES, hall.ofMovement(1, 0));
        Check.due("drops that move", 90000, hall.ledger(2));
        hall.pass(1);
        Check.due("but once", 180000, hall.ledger(5));
        Gaugerhall inTime = underWay();
        inTime.pass(5);
        Check.due("arrives on its last day", 0, inTime.arrive(0, 200));
        inTime.pass(10);
        Check.due("and is not LOST", Gaugerhall.ARRIVED, inTime.ofMovement(0, 0));
        Check.due("nothing is MISSING", 0, inTime.ledger(5));
        Gaugerhall each = filled();
        each.dip(0, 3000, 1);
        int owed = each.duty(0);
        each.ship(0, 1, 150, 1);
        each.ship(0, 1, 150, 1);
        each.pass(2);
        Check.due("1.5 and 1.5, each rounded", owed + 2, each.duty(0));
    }

    private static void pass() {
        Gaugerhall hall = underWay();
        Check.due("pass(1)", 0, hall.pass(1));
        Check.due("day", 1, hall.day());
        Check.due("pass(60), both being LOST", 1800 + 18 + 18 + 900, hall.pass(60));
        Check.due("day", 61, hall.day());
        for (int i = 0; i < 13; i++) {
            hall.pass(60);
        }
        hall.pass(58);
        Check.due("day", 899, hall.day());
        hall.pass(1);
        Check.due("the last day", 900, hall.day());
    }

    private static void owedGrows() {
        Gaugerhall hall = filled();
        hall.release(0, 100);
        Check.due("to day 29", 450, hall.pass(29));
        Check.due("to day 30", 454, hall.pass(1));
        Check.due("to day 59", 454, hall.pass(29));
        Check.due("to day 60", 458, hall.pass(1));
        Check.due("to day 120", 466, hall.pass(60));
        hall.pay(367);
        Check.due("99 have no hundredth", 99, hall.pass(60));
    }

    private static void shares() {
        Gaugerhall hall = filled();
        hall.vessel(0, 100);
        hall.move(0, 3, 100);
        hall.shares(0, 500);
        hall.pass(1);
        Check.due("drops", 2610000 - 13050, hall.ofVessel(0, 1));
        Check.due("volume", 2900 - 14, hall.ofVessel(0, 0));
        Check.due("drops of the other", 90000 - 450, hall.ofVessel(3, 1));
        Check.due("volume of the other, half of 1 being nothing", 100, hall.ofVessel(3, 0));
        Check.due("EXCUSED", 13500, hall.ledger(4));
        hall.pass(1);
        Check.due("drops", 2596950 - 12984, hall.ofVessel(0, 1));
        Check.due("volume", 2886 - 14, hall.ofVessel(0, 0));
        Check.due("EXCUSED", 13500 + 12984 + 447, hall.ledger(4));
        Check.due("owed", 0, hall.duty(0));
        hall.ship(0, 1, 100, 60);
        int moving = hall.ledger(2);
        hall.pass(1);
        Check.due("what moves has no share", moving, hall.ledger(2));

        int[][] edges = {{1, 369, 271, 99999, 369}, {271, 369, 1, 369, 369}, {250, 400, 1, 399, 399}};
        for (int[] e : edges) {
            Gaugerhall edge = new Gaugerhall();
            edge.vessel(3, 9999);
            edge.dip(0, e[1], e[2]);
            edge.shares(3, e[0]);
            edge.pass(1);
            Check.due("drops after a share of " + e[0], e[3], edge.ofVessel(0, 1));
            Check.due("volume after a share of " + e[0], e[4], edge.ofVessel(0, 0));
        }
    }

    private static void whatADayDoesInOrder() {
        Gaugerhall rated = filled();
        rated.ship(0, 1, 100, 4);
        rated.budget(5, 20, 0);
        Check.due("the rate comes ahead of what is LOST", 1800, rated.pass(5));
        Gaugerhall early = filled();
        early.ship(0, 1, 100, 3);
        early.budget(5, 20, 0);
        Check.due("LOST the day before", 900, early.pass(5));
        Gaugerhall grown = filled();
        grown.ship(0, 1, 100, 29);
        Check.due("what is LOST comes ahead of growing", 909, grown.pass(30));
        Gaugerhall all = filled();
        all.ship(0, 1, 100, 29);
        all.budget(30, 20, 0);
        Check.due("all three", 1818, all.pass(30));
    }

    private static Gaugerhall nearTheEnd() {
        Gaugerhall hall = underWay();
        for (int i = 0; i < 14; i++) {
            hall.pass(60);
        }
        return hall;
    }

    private static Gaugerhall onDay899() {
        Gaugerhall hall = nearTheEnd();
        hall.pass(59);
        return hall;
    }

    private static void passRefuses() {
        Check.refused("pass(0)", Check.ARGUMENT, MovementsTest::underWay, x -> x.pass(0));
        Check.refused("pass(-1)", Check.ARGUMENT, MovementsTest::underWay, x -> x.pass(-1));
        Check.refused("pass(61)", Check.ARGUMENT, MovementsTest::underWay, x -> x.pass(61));
        Check.refused("to day 901", Check.STATE, MovementsTest::onDay899, x -> x.pass(2));
        Check.refused("far behind the end", Check.STATE, MovementsTest::onDay899, x -> x.pass(60));
        Check.refused("61 near the end", Check.ARGUMENT, MovementsTest::onDay899, x -> x.pass(61));
        Gaugerhall hall = nearTheEnd();
        Check.due("day", 840, hall.day());
        hall.pass(60);
        Check.due("day", 900, hall.day());
    }
}
