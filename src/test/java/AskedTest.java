/** Promises 18 to 23: what is asked, and that asking changes nothing. */
public final class AskedTest {
    public static void main(String[] args) {
        day();
        ofVessel();
        dropsAnew();
        ofMovement();
        ledger();
        duty();
        refuse();
        askingChangesNothing();
        Check.end();
    }

    /** Some of all: vessels, lots, movements of each kind, shares, a budget, a permit, on day 3. */
    private static Gaugerhall busy() {
        Gaugerhall hall = new Gaugerhall();
        hall.vessel(0, 9999);
        hall.vessel(2, 500);
        hall.vessel(3, 500);
        hall.run(0, 9999, 300, 2000, 900);
        hall.guarantee(5000);
        hall.ship(0, 1, 100, 1);
        hall.ship(0, 1, 100, 9);
        hall.ship(0, 2, 50, 60);
        hall.arrive(1, 90);
        hall.release(0, 10);
        hall.export(4000);
        hall.shares(0, 100);
        hall.pass(3);
        hall.permit(5000);
        hall.denature(0, 2);
        hall.lose(0, 3, false);
        hall.budget(60, 30, 7000);
        hall.release(0, 5);
        return hall;
    }

    private static void day() {
        Check.due("day", 0, new Gaugerhall().day());
        Check.due("day", 3, busy().day());
    }

    private static void ofVessel() {
        Gaugerhall hall = busy();
        int[][] due = {{1727, 1552321, 898, 0, 8272}, {90, 81000, 900, 2, 410}, {0, 0, 0, 3, 500}};
        for (int i = 0; i < due.length; i++) {
            for (int what = 0; what < 5; what++) {
                Check.due("ofVessel(" + i + ", " + what + ")", due[i][what], hall.ofVessel(i, what));
            }
        }
    }

    private static void dropsAnew() {
        Gaugerhall hall = busy();
        for (int i = 0; i < 3; i++) {
            Check.due("dropsAnew(" + i + ")", busy().ofVessel(i, 1), hall.dropsAnew(i));
        }
        Check.due("dropsAnew(0)", 1552321, hall.dropsAnew(0));
        hall.dip(0, 1700, 3);
        Check.due("dropsAnew(0), dipped", 5100, hall.dropsAnew(0));
        hall.pass(1);
        Check.due("dropsAnew(0), after a share", 5095, hall.dropsAnew(0));
        hall.arrive(2, 50);
        Check.due("dropsAnew(2), arrived", 45000, hall.dropsAnew(2));
    }

    private static void ofMovement() {
        Gaugerhall hall = busy();
        int[][] due = {{Gaugerhall.LOST, 100, 90000, 1}, {Gaugerhall.ARRIVED, 100, 90000, 9}, {Gaugerhall.MOVES, 50, 45000, 60}};
        for (int i = 0; i < due.length; i++) {
            for (int what = 0; what < 4; what++) {
                Check.due("ofMovement(" + i + ", " + what + ")", due[i][what], hall.ofMovement(i, what));
            }
        }
    }

    private static void ledger() {
        Gaugerhall hall = busy();
        int missing = 90000 + 9000 + 2696;
        int excused = 1566 + 1564 + 1562 + 1797;
        int[] due = {1800000, 1633321, 45000, 9494, excused, missing, 4000, 899730};
        for (int what = 0; what < due.length; what++) {
            Check.due("ledger(" + what + ")", due[what], hall.ledger(what));
        }
        int placed = 0;
        for (int what = 1; what < 7; what++) {
            placed += hall.ledger(what);
        }
        Check.due("each drop made has a place", 1800000, placed);
    }

    private static void duty() {
        Gaugerhall hall = busy();
        int owed = 8997 + 90 + 45 - 20 + 900 + 26 + 22;
        int[] due = {owed, 10, 2506, 986506, 3203, 4550};
        for (int what = 0; what < due.length; what++) {
            Check.due("duty(" + what + ")", due[what], hall.duty(what));
        }
    }

    private static void refuse() {
        for (int vessel : new int[] {-1, 3, Integer.MIN_VALUE, Integer.MAX_VALUE}) {
            Check.refused("ofVessel(" + vessel + ", 0)", Check.INDEX, AskedTest::busy, x -> x.ofVessel(vessel, 0));
            Check.refused("ofVessel(" + vessel + ", 9)", Check.INDEX, AskedTest::busy, x -> x.ofVessel(vessel, 9));
            Check.refused("dropsAnew(" + vessel + ")", Check.INDEX, AskedTest::busy, x -> x.dropsAnew(vessel));
            Check.refused("ofMovement(" + vessel + ", 0)", Check.INDEX, AskedTest::busy, x -> x.ofMovement(vessel, 0));
        }
        for (int what : new int[] {-1, 8, Integer.MIN_VALUE, Integer.MAX_VALUE}) {
            Check.refused("ofVessel(0, " + what + ")", Check.INDEX, AskedTest::busy, x -> x.ofVessel(0, what));
            Check.refused("ofMovement(0, " + what + ")", Check.INDEX, AskedTest::busy, x -> x.ofMovement(0, what));
            Check.refused("ledger(" + what + ")", Check.ARGUMENT, AskedTest::busy, x -> x.ledger(what));
            Check.refused("duty(" + what + ")", Check.ARGUMENT, AskedTest::busy, x -> x.duty(what));
        }
        Check.refused("ofVessel(0, 5)", Check.INDEX, AskedTest::busy, x -> x.ofVessel(0, 5));
        Check.refused("ofMovement(0, 4)", Check.INDEX, AskedTest::busy, x -> x.ofMovement(0, 4));
        Check.refused("duty(6)", Check.ARGUMENT, AskedTest::busy, x -> x.duty(6));
    }

    private static void askingChangesNothing() {
        Gaugerhall hall = busy();
        String before = Trace.of(hall);
        hall.dropsAnew(0);
        Check.dueText("asked twice", before, Trace.of(hall));
        Check.dueText("asked or not", Trace.withFuture(busy()), Trace.withFuture(hall));
    }
}
