/** Promises 8 to 13: leaving bond, permits, what is denatured, exports, payments, budgets. */
final class DutyEdges {
    private static final String NO_VESSEL = "Throws `IndexOutOfBoundsException` if there is no such vessel";
    private static final String ARGUMENT = "Throws `IllegalArgumentException` if ";
    private static final String STATE = "Throws `IllegalStateException` if ";
    private static final String RELEASE_STATE = STATE + "there is not so much, the quota does not allow it, or there were"
        + " 100";
    private static final String DENATURE_STATE = STATE + "there is not so much, or the permit does not allow it";
    private static final int[] NO_VESSELS = {-1, 4, Integer.MIN_VALUE, Integer.MAX_VALUE};
    private static final int[] BELOW_1 = {0, -1, Integer.MIN_VALUE};

    private DutyEdges() {
    }

    /** 40 of strength 5 in vessel 0, and in vessel 2; 200 drops may be denatured. */
    private static Gaugerhall permitted() {
        Gaugerhall hall = Scenes.holding(40, 5);
        hall.dip(2, 40, 5);
        hall.permit(200);
        return hall;
    }

    // ---- promise 8

    @Says(in = "Promise 8", text = "`vessel`: its number")
    static void releaseOfAVessel() {
        Check.taken("of 0", DutyEdges::permitted, x -> x.release(0, 1));
        Check.taken("of 2", DutyEdges::permitted, x -> x.release(2, 1));
        Check.outside(Check.INDEX, 0, 2, DutyEdges::permitted, (x, vessel) -> x.release(vessel, 1));
    }

    @Says(in = "Promise 8", text = "`volume`: 1 or more")
    static void releaseOf1OrMore() {
        Gaugerhall hall = Check.taken("1", DutyEdges::permitted, x -> x.release(0, 1));
        Check.due("volume", 39, hall.ofVessel(0, 0));
        Check.due("PAID", 5, hall.ledger(3));
        for (int volume : BELOW_1) {
            Check.refused("" + volume, Check.ARGUMENT, DutyEdges::permitted, x -> x.release(0, volume));
        }
    }

    @Says(in = "Promise 8", text = "Returns the duty that arises.")
    static void releaseReturnsTheDuty() {
        Check.due("195 drops for 5", 0, permitted().release(0, 39));
        Check.due("200 drops for 5", 1, permitted().release(0, 40));
        Check.due("all of a full one", 5000 + 85990, Scenes.holding(9999, 960).release(0, 9999));
        Gaugerhall hall = permitted();
        hall.release(0, 40);
        Check.due("owed", 1, hall.duty(0));
    }

    @Says(in = "Promise 8", text = NO_VESSEL)
    static void releaseOfNoVessel() {
        for (int vessel : NO_VESSELS) {
            Check.refused("of " + vessel, Check.INDEX, Scenes::busy, x -> x.release(vessel, 1));
            Check.refused("0 of " + vessel, Check.INDEX, Scenes::busy, x -> x.release(vessel, 0));
            Check.refused("too much of " + vessel, Check.INDEX, Scenes::busy, x -> x.release(vessel, 9999));
        }
    }

    @Says(in = "Promise 8", text = ARGUMENT + "volume is below 1")
    static void releaseOfLessThan1() {
        for (int volume : BELOW_1) {
            Check.refused("of 0", Check.ARGUMENT, Scenes::busy, x -> x.release(0, volume));
            Check.refused("from an empty one", Check.ARGUMENT, Scenes::busy, x -> x.release(3, volume));
            Check.refused("the 101st", Check.ARGUMENT, () -> releases(100), x -> x.release(0, volume));
        }
    }

    @Says(in = "Promise 8", text = RELEASE_STATE)
    static void releaseOfNotSoMuch() {
        Gaugerhall all = Check.taken("all", DutyEdges::permitted, x -> x.release(0, 40));
        Check.due("nothing stays", 0, all.ofVessel(0, 0) + all.ofVessel(0, 1));
        Check.refused("1 more", Check.STATE, DutyEdges::permitted, x -> x.release(0, 41));
        Check.refused("the most", Check.STATE, DutyEdges::permitted, x -> x.release(0, Integer.MAX_VALUE));
        Check.refused("1 from an empty one", Check.STATE, DutyEdges::permitted, x -> x.release(1, 1));
    }

    @Says(in = "Promise 8", text = RELEASE_STATE)
    static void releaseThatTheQuotaDoesNotAllow() {
        int[][] quotas = {{0, 0}, {4, 0}, {5, 1}, {9, 1}, {10, 2}, {199, 39}, {200, 40}, {201, 40}, {9999999, 40}};
        for (int[] q : quotas) {
            Check.Scene scene = () -> {
                Gaugerhall hall = permitted();
                hall.budget(1, 10, q[0]);
                return hall;
            };
            if (q[1] > 0) {
                Gaugerhall hall = Check.taken("the most by " + q[0], scene, x -> x.release(0, q[1]));
                Check.due("left of " + q[0], q[0] - 5 * q[1], hall.duty(2));
            }
            Check.refused("more than by " + q[0], Check.STATE, scene, x -> x.release(0, q[1] + 1));
        }
    }

    @Says(in = "Promise 8", text = RELEASE_STATE)
    static void releaseWhenThereWere100() {
        Gaugerhall hall = Check.taken("the 100th", () -> releases(99), x -> x.release(0, 1));
        Check.due("PAID", 100, hall.ledger(3));
        Check.refused("the 101st", Check.STATE, () -> releases(100), x -> x.release(0, 1));
        Check.Scene later = () -> {
            Gaugerhall all = releases(100);
            all.export(100);
            Scenes.passTo(all, 100);
            return all;
        };
        Check.refused("the 101st, all being exported, in another year", Check.STATE, later, x -> x.release(0, 1));
    }

    /** So many leavings of a drop, among others that are refused and do not count. */
    private static Gaugerhall releases(int count) {
        Gaugerhall hall = Scenes.holding(200, 1);
        for (int i = 0; i < count; i++) {
            Check.thrown("1 from an empty one", Check.STATE, hall, x -> x.release(1, 1));
            hall.release(0, 1);
        }
        return hall;
    }

    // ---- promise 9

    @Says(in = "Promise 9", text = "`drops`: 0 to 9999999")
    static void permitDrops() {
        Check.range(Check.ARGUMENT, 0, 9999999, Scenes::busy, (x, drops) -> x.permit(drops));
        for (int drops : new int[] {0, 9999999}) {
            Check.due("permitted", drops, Check.taken("permit", Scenes::busy, x -> x.permit(drops)).duty(4));
        }
    }

    @Says(in = "Promise 9", text = "Returns how many could be.")
    static void permitReturnsHowManyCouldBe() {
        Gaugerhall hall = Scenes.holding(10, 1);
        Check.due("0 at first", 0, hall.permit(9999999));
        Check.due("the most", 9999999, hall.permit(7));
        hall.denature(0, 3);
        Check.due("those that were not denatured", 4, hall.permit(4));
        hall.denature(0, 4);
        Check.due("none", 0, hall.permit(0));
        Check.thrown("-1", Check.ARGUMENT, hall, x -> x.permit(-1));
        Check.due("none still", 0, hall.permit(1));
    }

    @Says(in = "Promise 9", text = ARGUMENT + "drops is out of range")
    static void permitOutOfRange() {
        Check.outside(Check.ARGUMENT, 0, 9999999, Gaugerhall::new, (x, drops) -> x.permit(drops));
        Check.outside(Check.ARGUMENT, 0, 9999999, DutyEdges::permitted, (x, drops) -> x.permit(drops));
    }

    // ---- promise 10

    @Says(in = "Promise 10", text = "`vessel`: its number")
    static void denatureOfAVessel() {
        Check.taken("of 0", DutyEdges::permitted, x -> x.denature(0, 1));
        Check.taken("of 2", DutyEdges::permitted, x -> x.denature(2, 1));
        Check.outside(Check.INDEX, 0, 2, DutyEdges::permitted, (x, vessel) -> x.denature(vessel, 1));
    }

    @Says(in = "Promise 10", text = "`volume`: 1 or more")
    static void denatureOf1OrMore() {
        Gaugerhall hall = Check.taken("1", DutyEdges::permitted, x -> x.denature(0, 1));
        Check.due("volume", 39, hall.ofVessel(0, 0));
        for (int volume : BELOW_1) {
            Check.refused("" + volume, Check.ARGUMENT, DutyEdges::permitted, x -> x.denature(0, volume));
        }
    }

    @Says(in = "Promise 10", text = "Returns how many drops that are.")
    static void denatureReturnsTheDrops() {
        Check.due("1", 5, permitted().denature(0, 1));
        Check.due("all", 200, permitted().denature(0, 40));
        Gaugerhall odd = Scenes.sevenInThree();
        odd.permit(7);
        Check.due("a third of 7", 2, odd.denature(0, 1));
        Check.due("permitted still", 5, odd.duty(4));
        Check.due("the rest", 5, odd.denature(0, 2));
        Gaugerhall full = Scenes.holding(9999, 960);
        full.permit(9999999);
        Check.due("all of a full one", 9599040, full.denature(0, 9999));
    }

    @Says(in = "Promise 10", text = NO_VESSEL)
    static void denatureOfNoVessel() {
        for (int vessel : NO_VESSELS) {
            Check.refused("of " + vessel, Check.INDEX, Scenes::busy, x -> x.denature(vessel, 1));
            Check.refused("0 of " + vessel, Check.INDEX, Scenes::busy, x -> x.denature(vessel, 0));
            Check.refused("too much of " + vessel, Check.INDEX, Scenes::busy, x -> x.denature(vessel, 9999));
        }
    }

    @Says(in = "Promise 10", text = ARGUMENT + "volume is below 1")
    static void denatureOfLessThan1() {
        for (int volume : BELOW_1) {
            Check.refused("of 0", Check.ARGUMENT, Scenes::busy, x -> x.denature(0, volume));
            Check.refused("from an empty one", Check.ARGUMENT, Scenes::busy, x -> x.denature(3, volume));
        }
    }

    @Says(in = "Promise 10", text = DENATURE_STATE)
    static void denatureOfNotSoMuch() {
        Check.Scene much = () -> {
            Gaugerhall hall = permitted();
            hall.permit(9999999);
            return hall;
        };
        Gaugerhall all = Check.taken("all", much, x -> x.denature(0, 40));
        Check.due("nothing stays", 0, all.ofVessel(0, 0) + all.ofVessel(0, 1));
        Check.refused("1 more", Check.STATE, much, x -> x.denature(0, 41));
        Check.refused("the most", Check.STATE, much, x -> x.denature(0, Integer.MAX_VALUE));
        Check.refused("1 from an empty one", Check.STATE, much, x -> x.denature(1, 1));
    }

    @Says(in = "Promise 10", text = DENATURE_STATE)
    static void denatureThatThePermitDoesNotAllow() {
        int[][] permits = {{0, 0}, {4, 0}, {5, 1}, {9, 1}, {10, 2}, {199, 39}, {200, 40}, {201, 40}};
        for (int[] p : permits) {
            Check.Scene scene = () -> {
                Gaugerhall hall = permitted();
                hall.permit(p[0]);
                return hall;
            };
            if (p[1] > 0) {
                Gaugerhall hall = Check.taken("the most by " + p[0], scene, x -> x.denature(0, p[1]));
                Check.due("left of " + p[0], p[0] - 5 * p[1], hall.duty(4));
            }
            Check.refused("more than by " + p[0], Check.STATE, scene, x -> x.denature(0, p[1] + 1));
        }
    }

    // ---- promise 11

    /** A lot of 400 drops for 2 and one of 600 for 3; there are 100 of strength 10 still. */
    private static Gaugerhall twoLots() {
        Gaugerhall hall = Scenes.holding(200, 10);
        hall.release(0, 40);
        hall.release(0, 60);
        return hall;
    }

    @Says(in = "Promise 11", text = "`drops`: 1 or more")
    static void exportOf1OrMore() {
        Gaugerhall hall = Check.taken("1", DutyEdges::twoLots, x -> x.export(1));
        Check.due("EXPORTED", 1, hall.ledger(6));
        for (int drops : BELOW_1) {
            Check.refused("" + drops, Check.ARGUMENT, DutyEdges::twoLots, x -> x.export(drops));
        }
    }

    @Says(in = "Promise 11", text = "Returns what is owed less by it.")
    static void exportReturnsWhatIsOwedLess() {
        int[][] exports = {{199, 0}, {200, 1}, {399, 1}, {400, 2}, {599, 2}, {600, 3}, {999, 4}, {1000, 5}};
        for (int[] e : exports) {
            Gaugerhall hall = twoLots();
            Check.due("export of " + e[0], e[1], hall.export(e[0]));
            Check.due("owed", 5 - e[1], hall.duty(0));
        }
    }

    @Says(in = "Promise 11", text = ARGUMENT + "drops is below 1")
    static void exportOfLessThan1() {
        for (int drops : BELOW_1) {
            Check.refused("with lots", Check.ARGUMENT, Scenes::busy, x -> x.export(drops));
            Check.refused("without lots", Check.ARGUMENT, Gaugerhall::new, x -> x.export(drops));
        }
    }

    @Says(in = "Promise 11", text = STATE + "the lots do not have so many")
    static void exportOfMoreThanTheLotsHave() {
        Gaugerhall all = Check.taken("all", DutyEdges::twoLots, x -> x.export(1000));
        Check.due("PAID", 0, all.ledger(3));
        Check.refused("1 more", Check.STATE, DutyEdges::twoLots, x -> x.export(1001));
        Check.refused("the most", Check.STATE, DutyEdges::twoLots, x -> x.export(Integer.MAX_VALUE));
        Check.refused("1 without lots", Check.STATE, () -> Scenes.holding(200, 10), x -> x.export(1));
        Check.Scene some = () -> {
            Gaugerhall hall = twoLots();
            hall.export(700);
            return hall;
        };
        Check.taken("the rest", some, x -> x.export(300));
        Check.refused("1 more than the rest", Check.STATE, some, x -> x.export(301));
        Check.Scene none = () -> {
            Gaugerhall hall = twoLots();
            hall.export(1000);
            return hall;
        };
        Check.refused("1 of lots that have none", Check.STATE, none, x -> x.export(1));
    }

    // ---- promise 12

    /** 1000000 is owed. */
    private static Gaugerhall owingMuch() {
        Gaugerhall hall = Scenes.holding(9999, 100);
        for (int i = 0; i < 11; i++) {
            hall.dip(0, 9999, 960);
            hall.lose(0, 9999, false);
        }
        hall.pay(hall.duty(0) - 1000000);
        return hall;
    }

    @Says(in = "Promise 12", text = "`money`: 1 to 999999")
    static void payMoney() {
        Check.due("owed", 1000000, owingMuch().duty(0));
        Check.range(Check.ARGUMENT, 1, 999999, DutyEdges::owingMuch, (x, money) -> x.pay(money));
    }

    @Says(in = "Promise 12", text = "Returns what is owed then.")
    static void payReturnsWhatIsOwed() {
        Check.due("the most", 1, owingMuch().pay(999999));
        Gaugerhall hall = Scenes.owing(5);
        Check.due("1 of 5", 4, hall.pay(1));
        Check.due("all", 0, hall.pay(4));
    }

    @Says(in = "Promise 12", text = ARGUMENT + "money is out of range")
    static void payOutOfRange() {
        Check.outside(Check.ARGUMENT, 1, 999999, Gaugerhall::new, (x, money) -> x.pay(money));
        Check.outside(Check.ARGUMENT, 1, 999999, () -> Scenes.owing(5), (x, money) -> x.pay(money));
        Check.outside(Check.ARGUMENT, 1, 999999, () -> Scenes.owingBelowNothing(5), (x, money) -> x.pay(money));
    }

    @Says(in = "Promise 12", text = STATE + "it is more than what is owed")
    static void payMoreThanIsOwed() {
        Check.due("just that", 0, Check.taken("5 of 5", () -> Scenes.owing(5), x -> x.pay(5)).duty(0));
        Check.refused("6 of 5", Check.STATE, () -> Scenes.owing(5), x -> x.pay(6));
        Check.refused("999999 of 5", Check.STATE, () -> Scenes.owing(5), x -> x.pay(999999));
        Check.refused("1 of 0", Check.STATE, () -> Scenes.holding(5, 5), x -> x.pay(1));
        Check.refused("1 of 5 below 0", Check.STATE, () -> Scenes.owingBelowNothing(5), x -> x.pay(1));
    }

    // ---- promise 13

    private static Gaugerhall onDay(int day) {
        Gaugerhall hall = Scenes.holding(10, 10);
        Scenes.passTo(hall, day);
        return hall;
    }

    @Says(in = "Promise 13", text = "`day`: behind today, to 900")
    static void budgetDay() {
        for (int today : new int[] {0, 7, 898}) {
            Check.range(Check.ARGUMENT, today + 1, 900, () -> onDay(today), (x, day) -> Calls.budget(x, day, 20, 1));
            Check.refused("day 0", Check.ARGUMENT, () -> onDay(today), x -> Calls.budget(x, 0, 20, 1));
        }
        Check.taken("900 on day 899", () -> onDay(899), x -> Calls.budget(x, 900, 20, 1));
        Check.refused("900 on day 900", Check.ARGUMENT, () -> onDay(900), x -> Calls.budget(x, 900, 20, 1));
        Check.refused("901 on day 900", Check.ARGUMENT, () -> onDay(900), x -> Calls.budget(x, 901, 20, 1));
    }

    @Says(in = "Promise 13", text = "`day`: behind today, to 900")
    static void budgetOfTomorrowAndOfTheLastDay() {
        Gaugerhall tomorrow = onDay(7);
        tomorrow.budget(8, 20, 1);
        tomorrow.pass(1);
        Check.due("rate tomorrow", 20, tomorrow.duty(1));
        Gaugerhall last = onDay(7);
        last.budget(900, 20, 1);
        Scenes.passTo(last, 899);
        Check.due("rate on day 899", 10, last.duty(1));
        last.pass(1);
        Check.due("rate on day 900", 20, last.duty(1));
    }

    @Says(in = "Promise 13", text = "`rate`: 0 to 99")
    static void budgetRate() {
        Check.range(Check.ARGUMENT, 0, 99, () -> onDay(7), (x, rate) -> Calls.budget(x, 8, rate, 1));
        for (int rate : new int[] {0, 99}) {
            Gaugerhall hall = onDay(7);
            hall.budget(8, rate, 1);
            hall.pass(1);
            Check.due("rate", rate, hall.duty(1));
        }
    }

    @Says(in = "Promise 13", text = "`quota`: 0 to 9999999: drops")
    static void budgetQuota() {
        Check.range(Check.ARGUMENT, 0, 9999999, () -> onDay(7), (x, quota) -> Calls.budget(x, 8, 1, quota));
        for (int quota : new int[] {0, 9999999}) {
            Gaugerhall hall = onDay(7);
            hall.budget(8, 1, quota);
            Check.due("quota", quota, hall.duty(2));
        }
    }

    @Says(in = "Promise 13", text = ARGUMENT + "day, rate or quota is out of range")
    static void budgetOfWhatIsOutOfRange() {
        int[][] budgets = {{7, 1, 1}, {901, 1, 1}, {8, -1, 1}, {8, 100, 1}, {8, 1, -1}, {8, 1, 10000000}, {7, 100, -1},
            {Integer.MIN_VALUE, 1, 1}, {Integer.MAX_VALUE, 1, 1}, {-1, -1, -1}};
        for (int[] b : budgets) {
            Check.refused("budget", Check.ARGUMENT, () -> onDay(7), x -> Calls.budget(x, b[0], b[1], b[2]));
            Check.refused("when one is told", Check.ARGUMENT, DutyEdges::toldForDay9, x -> Calls.budget(x, b[0], b[1], b[2]));
        }
    }

    private static Gaugerhall toldForDay9() {
        Gaugerhall hall = onDay(7);
        hall.budget(9, 20, 30);
        return hall;
    }

    @Says(in = "Promise 13", text = STATE + "one is told that has not come")
    static void budgetWhenOneHasNotCome() {
        for (int day : new int[] {8, 9, 10, 900}) {
            Check.refused("for day " + day, Check.STATE, DutyEdges::toldForDay9, x -> Calls.budget(x, day, 1, 1));
        }
        Check.Scene dayBefore = () -> {
            Gaugerhall hall = toldForDay9();
            hall.pass(1);
            return hall;
        };
        Check.refused("the day before it comes", Check.STATE, dayBefore, x -> Calls.budget(x, 10, 1, 1));
        Check.Scene itsDay = () -> {
            Gaugerhall hall = toldForDay9();
            hall.pass(2);
            return hall;
        };
        Check.due("quota", 5, Check.taken("the day it comes", itsDay, x -> Calls.budget(x, 10, 1, 5)).duty(2));
    }
}
