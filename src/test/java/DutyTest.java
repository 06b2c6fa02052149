/** Promises 8 to 13: leaving bond, permits, denaturing, exports, payments, budgets. */
public final class DutyTest {
    public static void main(String[] args) {
        releaseForHalfOfTheRate();
        eachKindIsRoundedByItself();
        halfOfTheRateIsRounded();
        aYearHas100Days();
        releaseRefuses();
        quota();
        releasesAreCounted();
        permit();
        denature();
        denatureRefuses();
        exportTakesTheOldestFirst();
        exportOfLotsOfManyRates();
        exportRefuses();
        pay();
        payRefuses();
        budget();
        budgetRefuses();
        Check.end();
    }

    /** Vessel 0 holds 3000 of strength 900, vessel 1, at another place, nothing; nothing is owed. */
    private static Gaugerhall filled() {
        Gaugerhall hall = new Gaugerhall();
        hall.vessel(0, 9999);
        hall.vessel(1, 9999);
        hall.run(0, 9999, 300, 3000, 900);
        return hall;
    }

    /** Lots of 900 drops for 4 and of 1800 for 9. */
    private static Gaugerhall twoLots() {
        Gaugerhall hall = filled();
        hall.release(0, 1);
        hall.release(0, 2);
        return hall;
    }

    private static void releaseForHalfOfTheRate() {
        Gaugerhall hall = filled();
        Check.due("900 for 5", 4, hall.release(0, 1));
        Check.due("left for half", 999100, hall.duty(3));
        Check.due("PAID", 900, hall.ledger(3));
        Check.due("volume", 2999, hall.ofVessel(0, 0));
        Check.due("drops", 2699100, hall.ofVessel(0, 1));
        Check.due("999000 for 5", 4995, hall.release(0, 1110));
        Check.due("left for half", 100, hall.duty(3));
        Check.due("100 for 5, 800 for 10", 8, hall.release(0, 1));
        Check.due("left for half", 0, hall.duty(3));
        Check.due("900 for 10", 9, hall.release(0, 1));
        Check.due("owed", 5016, hall.duty(0));
        Check.due("PAID", 1001700, hall.ledger(3));
        Check.due("MISSING", 0, hall.ledger(5));
        Check.due("EXCUSED", 0, hall.ledger(4));
        Check.due("all the rest", 16983, hall.release(0, 1887));
        Check.due("drops", 0, hall.ofVessel(0, 1));
    }

    private static void eachKindIsRoundedByItself() {
        Gaugerhall hall = filled();
        hall.release(0, 1111);
        Check.due("left for half", 100, hall.duty(3));
        hall.dip(0, 1889, 1);
        Check.due("0.5 and 1.5", 1, hall.release(0, 250));
    }

    private static void halfOfTheRateIsRounded() {
        int[][] rates = {{21, 9000}, {99, 44100}, {1, 0}, {0, 0}, {2, 900}};
        for (int[] r : rates) {
            Gaugerhall hall = filled();
            hall.budget(1, r[0], 0);
            hall.pass(1);
            Check.due("900000 for half of " + r[0], r[1], hall.release(0, 1000));
        }
        Gaugerhall hall = filled();
        hall.budget(1, 21, 0);
        hall.pass(1);
        Check.due("1000000 for 10, 800000 for 21", 26800, hall.release(0, 2000));
    }

    private static void aYearHas100Days() {
        Gaugerhall hall = filled();
        hall.release(0, 1200);
        hall.pass(60);
        hall.pass(39);
        Check.due("left for half on day 99", 0, hall.duty(3));
        hall.pass(1);
        Check.due("left for half on day 100", 1000000, hall.duty(3));
        Check.due("900000 for 5", 4500, hall.release(0, 1000));
        Check.due("left for half", 100000, hall.duty(3));
        hall.pass(60);
        hall.pass(39);
        Check.due("left for half on day 199", 100000, hall.duty(3));
        hall.pass(60);
        Check.due("left for half on day 259", 1000000, hall.duty(3));
    }

    private static void releaseRefuses() {
        Check.refused("release(-1, 1)", Check.INDEX, DutyTest::twoLots, x -> x.release(-1, 1));
        Check.refused("release(2, 1)", Check.INDEX, DutyTest::twoLots, x -> x.release(2, 1));
        Check.refused("release(2, 0)", Check.INDEX, DutyTest::twoLots, x -> x.release(2, 0));
        Check.refused("volume 0", Check.ARGUMENT, DutyTest::twoLots, x -> x.release(0, 0));
        Check.refused("volume -1", Check.ARGUMENT, DutyTest::twoLots, x -> x.release(1, -1));
        Check.refused("too much", Check.STATE, DutyTest::twoLots, x -> x.release(0, 2998));
        Check.refused("from an empty one", Check.STATE, DutyTest::twoLots, x -> x.release(1, 1));
    }

    private static Gaugerhall underQuota() {
        Gaugerhall hall = twoLots();
        hall.budget(5, 20, 1800);
        return hall;
    }

    private static void quota() {
        Gaugerhall hall = underQuota();
        Check.due("what left earlier does not count", 1800, hall.duty(2));
        hall.release(0, 1);
        Check.due("quota", 900, hall.duty(2));
        hall.lose(0, 1, true);
        hall.permit(900);
        hall.denature(0, 1);
        hall.guarantee(9000);
        hall.ship(0, 1, 1, 1);
        hall.export(1);
        Check.due("nothing else counts", 900, hall.duty(2));
        hall.release(0, 1);
        Check.due("quota", 0, hall.duty(2));
        hall.dip(0, 10, 0);
        Check.due("no drops may leave yet", 0, hall.release(0, 5));
        Check.refused("above the quota", Check.STATE, DutyTest::underQuota, x -> x.release(0, 3));
        Check.refused("above the quota and 0", Check.ARGUMENT, DutyTest::underQuota, x -> x.release(0, 0));
        Gaugerhall later = underQuota();
        Check.due("just the quota", 9, later.release(0, 2));
        later.pass(4);
        Check.due("the day before", 0, later.duty(2));
        later.pass(1);
        Check.due("its day", Gaugerhall.NONE, later.duty(2));
        Check.due("above the quota, by the new rate", 27, later.release(0, 3));
    }

    private static Gaugerhall hundredReleases() {
        Gaugerhall hall = filled();
        hall.release(0, 1);
        hall.dip(0, 3000, 0);
        for (int i = 1; i < 100; i++) {
            hall.release(0, 1);
            try {
                hall.release(0, 3000);
                Check.complain("there is not so much");
            } catch (IllegalStateException e) {
                continue;
            }
        }
        return hall;
    }

    private static void releasesAreCounted() {
        Check.due("after 100 releases", 2901, hundredReleases().ofVessel(0, 0));
        Check.refused("the 101st", Check.STATE, DutyTest::hundredReleases, x -> x.release(0, 1));
        Check.refused("the 101st of 0", Check.ARGUMENT, DutyTest::hundredReleases, x -> x.release(0, 0));
        Check.refused("the 101st from nowhere", Check.INDEX, DutyTest::hundredReleases, x -> x.release(2, 0));
        Gaugerhall hall = hundredReleases();
        Check.due("lots that are empty do not matter", 4, hall.export(900));
        Check.refused("the 101st, all being exported", Check.STATE, DutyTest::hundredExported, x -> x.release(0, 1));
    }

    private static Gaugerhall hundredExported() {
        Gaugerhall hall = hundredReleases();
        hall.export(900);
        return hall;
    }

    private static void permit() {
        Gaugerhall hall = filled();
        Check.due("permit(5000)", 0, hall.permit(5000));
        Check.due("duty(4)", 5000, hall.duty(4));
        hall.denature(0, 1);
        Check.due("permit(9999999)", 4100, hall.permit(9999999));
        Check.due("permit(0)", 9999999, hall.permit(0));
        Check.due("duty(4)", 0, hall.duty(4));
        Check.refused("permit(-1)", Check.ARGUMENT, DutyTest::twoLots, x -> x.permit(-1));
        Check.refused("permit(10000000)", Check.ARGUMENT, DutyTest::twoLots, x -> x.permit(10000000));
    }

    private static Gaugerhall permitted() {
        Gaugerhall hall = filled();
        hall.permit(1800);
        return hall;
    }

    private static void denature() {
        Gaugerhall hall = permitted();
        Check.due("denature(0, 1)", 900, hall.denature(0, 1));
        Check.due("duty(4)", 900, hall.duty(4));
        Check.due("EXCUSED", 900, hall.ledger(4));
        Check.due("just the permit", 900, hall.denature(0, 1));
        Check.due("duty(4)", 0, hall.duty(4));
        Check.due("EXCUSED", 1800, hall.ledger(4));
        Check.due("owed", 0, hall.duty(0));
        Check.due("volume", 2998, hall.ofVessel(0, 0));
        Check.due("drops", 2698200, hall.ofVessel(0, 1));
        hall.dip(0, 10, 0);
        Check.due("no drops need no permit", 0, hall.denature(0, 10));
    }

    private static void denatureRefuses() {
        Check.refused("denature(-1, 1)", Check.INDEX, DutyTest::permitted, x -> x.denature(-1, 1));
        Check.refused("denature(2, 0)", Check.INDEX, DutyTest::permitted, x -> x.denature(2, 0));
        Check.refused("volume 0", Check.ARGUMENT, DutyTest::permitted, x -> x.denature(0, 0));
        Check.refused("volume -1", Check.ARGUMENT, DutyTest::permitted, x -> x.denature(1, -1));
        Check.refused("above the permit", Check.STATE, DutyTest::permitted, x -> x.denature(0, 3));
        Check.refused("too much", Check.STATE, DutyTest::permitted, x -> x.denature(0, 3001));
        Check.refused("from an empty one", Check.STATE, DutyTest::permitted, x -> x.denature(1, 1));
        Check.refused("without a permit", Check.STATE, DutyTest::filled, x -> x.denature(0, 1));
    }

    private static void exportTakesTheOldestFirst() {
        Gaugerhall hall = twoLots();
        Check.due("4 times 300 of 900", 1, hall.export(300));
        Check.due("3 times 300 of 600", 1, hall.export(300));
        Check.due("2 times 300 of 300 and 9 times 900 of 1800", 6, hall.export(1200));
        Check.due("5 times 1 of 900", 0, hall.export(1));
        Check.due("PAID", 899, hall.ledger(3));
        Check.due("EXPORTED", 1801, hall.ledger(6));
        Check.due("owed", 5, hall.duty(0));
        Check.due("left for half, as it was", 997300, hall.duty(3));
        Check.due("5 times 899 of 899", 5, hall.export(899));
        Check.due("PAID", 0, hall.ledger(3));
        Check.due("owed", 0, hall.duty(0));

        Gaugerhall each = twoLots();
        Check.due("4 and 9 times 100 of 1800, each rounded", 4, each.export(1000));
        Gaugerhall paid = twoLots();
        paid.pay(13);
        Check.due("both lots", 13, paid.export(2700));
        Check.due("owed, below 0", -13, paid.duty(0));
        paid.pass(30);
        Check.due("owed below 0 does not grow", -13, paid.duty(0));
    }

    private static void exportOfLotsOfManyRates() {
        Gaugerhall hall = filled();
        hall.release(0, 1200);
        hall.budget(1, 50, 0);
        hall.pass(1);
        hall.release(0, 100);
        Check.due("owed", 5000 + 800 + 4500, hall.duty(0));
        Check.due("half of the first lot", 2900, hall.export(540000));
        Check.due("the rest of it, and a third of the other", 2900 + 1500, hall.export(570000));
        Check.due("owed", 3000, hall.duty(0));
    }

    private static void exportRefuses() {
        Check.refused("export(0)", Check.ARGUMENT, DutyTest::twoLots, x -> x.export(0));
        Check.refused("export(-1)", Check.ARGUMENT, DutyTest::twoLots, x -> x.export(-1));
        Check.refused("export(2701)", Check.STATE, DutyTest::twoLots, x -> x.export(2701));
        Check.refused("far too many", Check.STATE, DutyTest::twoLots, x -> x.export(Integer.MAX_VALUE));
        Check.refused("without a lot", Check.STATE, DutyTest::filled, x -> x.export(1));
        Check.refused("0 without a lot", Check.ARGUMENT, DutyTest::filled, x -> x.export(0));
    }

    private static void pay() {
        Gaugerhall hall = twoLots();
        Check.due("pay(1)", 12, hall.pay(1));
        Check.due("pay(12)", 0, hall.pay(12));
        Check.due("owed", 0, hall.duty(0));
        Check.due("PAID", 2700, hall.ledger(3));
        Gaugerhall rich = rich();
        Check.due("owed", 1069092, rich.duty(0));
        Check.due("pay(999999)", 69093, rich.pay(999999));
    }

    private static Gaugerhall rich() {
        Gaugerhall hall = new Gaugerhall();
        hall.vessel(0, 9999);
        hall.budget(1, 99, 0);
        hall.pass(1);
        for (int i = 0; i < 4; i++) {
            hall.run(0, 9999, 300, 1, 1);
        }
        return hall;
    }

    private static void payRefuses() {
        Check.refused("pay(0)", Check.ARGUMENT, DutyTest::twoLots, x -> x.pay(0));
        Check.refused("pay(-1)", Check.ARGUMENT, DutyTest::twoLots, x -> x.pay(-1));
        Check.refused("pay(1000000)", Check.ARGUMENT, DutyTest::rich, x -> x.pay(1000000));
        Check.refused("pay(1000000) of 13", Check.ARGUMENT, DutyTest::twoLots, x -> x.pay(1000000));
        Check.refused("pay(14)", Check.STATE, DutyTest::twoLots, x -> x.pay(14));
        Check.refused("nothing is owed", Check.STATE, DutyTest::filled, x -> x.pay(1));
        Check.refused("below 0 is owed", Check.STATE, DutyTest::belowNothing, x -> x.pay(1));
        Check.refused("below 0 is owed, pay(0)", Check.ARGUMENT, DutyTest::belowNothing, x -> x.pay(0));
    }

    private static Gaugerhall belowNothing() {
        Gaugerhall hall = twoLots();
        hall.pay(13);
        hall.export(900);
        return hall;
    }

    private static void budget() {
        Gaugerhall hall = filled();
        hall.budget(2, 99, 9999999);
        Check.due("quota", 9999999, hall.duty(2));
        Check.due("rate today", 10, hall.duty(1));
        hall.pass(1);
        Check.due("rate the day before", 10, hall.duty(1));
        Check.due("not seen, by the old rate", 9, hall.lose(0, 1, false));
        hall.pass(1);
        Check.due("rate on its day", 99, hall.duty(1));
        Check.due("quota on its day", Gaugerhall.NONE, hall.duty(2));
        Check.due("not seen, by the new rate", 89, hall.lose(0, 1, false));
        hall.budget(3, 0, 0);
        Check.due("another may be told", 0, hall.duty(2));
        hall.pass(1);
        Check.due("its rate", 0, hall.duty(1));
        hall.budget(900, 1, 1);
        for (int i = 0; i < 14; i++) {
            hall.pass(60);
        }
        hall.pass(56);
        Check.due("rate on day 899", 0, hall.duty(1));
        hall.pass(1);
        Check.due("rate on day 900", 1, hall.duty(1));
        Gaugerhall passed = filled();
        passed.budget(30, 7, 5);
        passed.pass(60);
        Check.due("rate long after", 7, passed.duty(1));
        Check.due("quota long after", Gaugerhall.NONE, passed.duty(2));
    }

    private static Gaugerhall onDayFive() {
        Gaugerhall hall = filled();
        hall.pass(5);
        return hall;
    }

    private static Check.Call budgetCall(int day, int rate, int quota) {
        return x -> {
            x.budget(day, rate, quota);
            return 0;
        };
    }

    private static void budgetRefuses() {
        int[][] wrong = {{5, 1, 1}, {4, 1, 1}, {0, 1, 1}, {-1, 1, 1}, {901, 1, 1}, {6, -1, 1}, {6, 100, 1}, {6, 1, -1},
            {6, 1, 10000000}};
        for (int[] w : wrong) {
            Check.refused("budget out of range", Check.ARGUMENT, DutyTest::onDayFive, budgetCall(w[0], w[1], w[2]));
        }
        Check.refused("one is told", Check.STATE, DutyTest::underQuota, budgetCall(6, 1, 1));
        Check.refused("one is told for that day", Check.STATE, DutyTest::underQuota, budgetCall(5, 20, 1800));
        Check.refused("one is told, and day 0", Check.ARGUMENT, DutyTest::underQuota, budgetCall(0, 1, 1));
        Check.refused("one is told, and rate 100", Check.ARGUMENT, DutyTest::underQuota, budgetCall(6, 100, 1));
        Check.refused("one is told, and quota -1", Check.ARGUMENT, DutyTest::underQuota, budgetCall(6, 1, -1));
    }
}
