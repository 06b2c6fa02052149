/** Objects that the tests at the edges begin with. */
final class Scenes {
    private Scenes() {
    }

    /** Vessels 0 and 1 at place 0, 2 at place 1, of 9999 each; vessel 0 holds what is told, and nothing is owed. */
    static Gaugerhall holding(int volume, int strength) {
        Gaugerhall hall = new Gaugerhall();
        return dipped(hall, volume, strength);
    }

    /** The same on day 1, with another rate from then on. */
    static Gaugerhall holdingAtRate(int rate, int volume, int strength) {
        Gaugerhall hall = new Gaugerhall();
        hall.budget(1, rate, 0);
        hall.pass(1);
        return dipped(hall, volume, strength);
    }

    /** As holding, but two kinds are in vessel 0, which shrink, if they are far apart. */
    static Gaugerhall mixed(int volume, int strength, int otherVolume, int otherStrength) {
        Gaugerhall hall = holding(volume, strength);
        hall.dip(1, otherVolume, otherStrength);
        hall.move(1, 0, otherVolume);
        return hall;
    }

    /** A volume of 3 with 7 drops. */
    static Gaugerhall sevenInThree() {
        return mixed(2, 2, 1, 3);
    }

    /** Vessel 0 has this capacity; vessels 1, beside it, and 2, at another place, hold what can come; all of strength 1. */
    static Gaugerhall nearlyFull(int capacity, int held, int canCome) {
        Gaugerhall hall = new Gaugerhall();
        hall.vessel(0, capacity);
        hall.vessel(0, 9999);
        hall.vessel(1, 9999);
        hall.dip(0, held, 1);
        hall.dip(1, canCome, 1);
        hall.dip(2, canCome, 1);
        return hall;
    }

    /** So much is owed, up to 9999, by drops that nobody saw break. */
    static Gaugerhall owing(int money) {
        Gaugerhall hall = holding(9999, 100);
        hall.lose(0, money, false);
        return hall;
    }

    /** So much is owed less than nothing, up to 999: all has been paid ahead of an export. */
    static Gaugerhall owingBelowNothing(int money) {
        Gaugerhall hall = holding(9999, 200);
        hall.release(0, money);
        hall.pay(money);
        hall.export(money * 200);
        return hall;
    }

    /** Some of all: four vessels, one of them empty, three lots, a movement of each kind, a budget to come; day 3. */
    static Gaugerhall busy() {
        Gaugerhall hall = new Gaugerhall();
        hall.vessel(0, 9999);
        hall.vessel(0, 1000);
        hall.vessel(1, 1000);
        hall.vessel(3, 500);
        hall.run(0, 9999, 300, 2000, 900);
        hall.run(1, 1000, 100, 200, 500);
        hall.guarantee(5000);
        hall.ship(0, 2, 100, 1);
        hall.ship(0, 2, 100, 9);
        hall.ship(0, 3, 50, 60);
        hall.arrive(1, 90);
        hall.release(0, 10);
        hall.release(1, 7);
        hall.shares(0, 100);
        hall.pass(3);
        hall.permit(5000);
        hall.budget(60, 30, 7000);
        hall.release(0, 5);
        return hall;
    }

    /** As busy, but no budget is to come. */
    static Gaugerhall withoutBudget() {
        Gaugerhall hall = busy();
        passTo(hall, 60);
        return hall;
    }

    static void passTo(Gaugerhall hall, int day) {
        for (int i = 0; i < 900 && hall.day() < day; i++) {
            hall.pass(Math.min(60, day - hall.day()));
        }
    }

    private static Gaugerhall dipped(Gaugerhall hall, int volume, int strength) {
        hall.vessel(0, 9999);
        hall.vessel(0, 9999);
        hall.vessel(1, 9999);
        hall.dip(0, volume, strength);
        return hall;
    }
}
