/** The section 'Terms': duty, the ledger, shares, dips, what is denatured, budgets and exports. */
final class TermsOfDutyEdges {
    private static final String RATE = "The rate is money for 1000 drops, 10 at first: the duty for some drops is these"
        + " times the rate, divided by 1000.";
    private static final String GROWS = "With each day that is divided by 30 without a remainder, a hundredth of what is"
        + " owed is owed besides";
    private static final String FIRST_1000000 = "the first 1000000 of a year";
    private static final String ARISES = "duty for what is missing, from stills or else, arises at once by the rate.";
    private static final String SHARE = "the drops are less by their share: the drops times the rate of shares of its"
        + " place, 0 at first, divided by 100000";
    private static final String DIP_HAD_MORE = "what it had more is MISSING, if that is more than a hundredth of what it"
        + " had, otherwise EXCUSED";
    private static final String QUOTA = "until then at most so many drops can leave bond.";
    private static final String OWED_LESS = "for each lot what was paid for it times the drops taken of it, divided by"
        + " those that it has, is owed less";

    private TermsOfDutyEdges() {
    }

    // ---- the rate, what is owed

    @Says(in = "Terms", text = RATE)
    static void theRateIs10AtFirst() {
        Check.due("rate", 10, new Gaugerhall().duty(1));
        Check.due("1000 drops", 10, Scenes.holding(1000, 1).lose(0, 1000, false));
    }

    @Says(in = "Terms", text = RATE)
    static void dutyIsDropsTimesTheRate() {
        int[][] dues = {{0, 9999, 0}, {1, 999, 0}, {1, 1000, 1}, {1, 1999, 1}, {1, 2000, 2}, {99, 10, 0}, {99, 11, 1},
            {99, 9999, 989}, {50, 19, 0}, {50, 20, 1}};
        for (int[] d : dues) {
            String call = d[1] + " drops by a rate of " + d[0];
            Check.due(call, d[2], Scenes.holdingAtRate(d[0], 9999, 1).lose(0, d[1], false));
        }
    }

    @Says(in = "Terms", text = "the duty for some drops is these times the rate, divided by 1000.")
    static void dropsTimesRateDoNotWrapAround() {
        Gaugerhall hall = Scenes.holding(9999, 960);
        hall.guarantee(9999999);
        for (int i = 0; i < 3; i++) {
            hall.dip(0, 9999, 960);
            hall.ship(0, 2, 9999, 60);
        }
        hall.budget(1, 99, 0);
        hall.pass(1);
        Check.due("28797120 drops by 99", 9999999 - 2850914, hall.duty(5));
    }

    @Says(in = "Terms", text = "Duty that arises is owed, till it is paid")
    static void dutyIsOwedTillItIsPaid() {
        Gaugerhall hall = Scenes.owing(5);
        Check.due("owed", 5, hall.duty(0));
        hall.pass(29);
        Check.due("owed still", 5, hall.duty(0));
        hall.lose(0, 1, false);
        Check.due("owed besides", 6, hall.duty(0));
        Check.due("all but 1 is paid", 1, hall.pay(5));
        Check.due("all is paid", 0, hall.pay(1));
        Check.due("owed", 0, hall.duty(0));
    }

    @Says(in = "Terms", text = "what is owed may be below 0.")
    static void whatIsOwedMayBeBelow0() {
        Gaugerhall hall = Scenes.owingBelowNothing(1);
        Check.due("1 below 0", -1, hall.duty(0));
        hall.lose(0, 1, false);
        Check.due("a duty of 2 besides", 1, hall.duty(0));
        Gaugerhall lower = Scenes.owingBelowNothing(999);
        Check.due("999 below 0", -999, lower.duty(0));
        Check.due("pass answers it", -999, lower.pass(1));
    }

    @Says(in = "Terms", text = GROWS)
    static void owedGrowsOnDaysDividedBy30() {
        Gaugerhall hall = Scenes.owing(1000);
        Check.due("day 29", 1000, hall.pass(29));
        Check.due("day 30", 1010, hall.pass(1));
        Check.due("day 31", 1010, hall.pass(1));
        Check.due("day 59", 1010, hall.pass(28));
        Check.due("day 60", 1020, hall.pass(1));
        Check.due("day 120, of 1020, 1030", 1040, hall.pass(60));
        Scenes.passTo(hall, 899);
        int owed = hall.duty(0);
        Check.due("day 900", owed + owed / 100, hall.pass(1));
    }

    @Says(in = "Terms", text = GROWS)
    static void aHundredthOfWhatIsOwedIsRoundedDown() {
        int[][] owed = {{1, 1}, {99, 99}, {100, 101}, {199, 200}, {200, 202}, {9999, 10098}};
        for (int[] o : owed) {
            Check.due(o[0] + " on day 30", o[1], Scenes.owing(o[0]).pass(30));
        }
    }

    @Says(in = "Terms", text = "if that is above 0.")
    static void nothingGrowsAt0AndBelow() {
        Check.due("0", 0, Scenes.holding(1, 1).pass(60));
        for (int money : new int[] {1, 99, 100, 101, 999}) {
            Check.due(money + " below 0", -money, Scenes.owingBelowNothing(money).pass(60));
        }
    }

    // ---- leaving bond

    @Says(in = "Terms", text = FIRST_1000000)
    static void theFirst1000000AreForHalf() {
        int[][] last = {{499, 1, 2}, {500, 0, 2}, {501, 0, 2}, {599, 0, 2}, {600, 0, 3}};
        for (int[] l : last) {
            Gaugerhall hall = fiveHundredLeftForHalf();
            Check.due(l[0] + " more", l[2], hall.release(0, l[0]));
            Check.due("left for half behind " + l[0], l[1], hall.duty(3));
        }
        Gaugerhall all = fiveHundredLeftForHalf();
        Check.due("500 for half, 1000 for the whole", 2 + 10, all.release(0, 1500));
        Check.due("1000 for the whole", 10, all.release(0, 1000));
    }

    /** 999500 of strength 500 have left bond, for a duty of 4997; vessel 0 holds 9000 of strength 1. */
    private static Gaugerhall fiveHundredLeftForHalf() {
        Gaugerhall hall = Scenes.holding(1999, 500);
        Check.due("999500 drops for half", 4997, hall.release(0, 1999));
        Check.due("left for half", 500, hall.duty(3));
        hall.dip(0, 9000, 1);
        return hall;
    }

    @Says(in = "Terms", text = FIRST_1000000)
    static void just1000000AtOnce() {
        Gaugerhall hall = Scenes.holding(9000, 500);
        Check.due("1000000 for half", 5000, hall.release(0, 2000));
        Check.due("left for half", 0, hall.duty(3));
        Gaugerhall more = Scenes.holding(9000, 500);
        Check.due("1000000 for half, 500 for the whole", 5005, more.release(0, 2001));
        Check.due("left for half", 0, more.duty(3));
        Check.due("PAID", 1000500, more.ledger(3));
    }

    @Says(in = "Terms", text = "which has 100 days")
    static void aYearHas100Days() {
        int[][] days = {{99, 0, 10}, {100, 1000000, 5}, {199, 1000000, 5}};
        for (int[] d : days) {
            Gaugerhall hall = allForHalfHasLeft();
            Scenes.passTo(hall, d[0]);
            Check.due("left for half on day " + d[0], d[1], hall.duty(3));
            Check.due("1000 drops on day " + d[0], d[2], hall.release(0, 2));
        }
        Gaugerhall late = Scenes.holding(9999, 500);
        Scenes.passTo(late, 799);
        late.release(0, 2);
        Check.due("left for half on day 799", 999000, late.duty(3));
        late.pass(1);
        Check.due("left for half on day 800", 1000000, late.duty(3));
        late.release(0, 2);
        late.pass(60);
        Check.due("left for half on day 860", 999000, late.duty(3));
        late.pass(40);
        Check.due("left for half on day 900", 1000000, late.duty(3));
    }

    /** On day 0; vessel 0 holds 7999 of strength 500. */
    private static Gaugerhall allForHalfHasLeft() {
        Gaugerhall hall = Scenes.holding(9999, 500);
        hall.release(0, 2000);
        return hall;
    }

    @Says(in = "Terms", text = "for half of the rate, which is rounded down")
    static void halfOfTheRateIsRoundedDown() {
        int[][] rates = {{0, 0}, {1, 0}, {2, 10}, {3, 10}, {98, 490}, {99, 490}};
        for (int[] r : rates) {
            Check.due("10000 drops by " + r[0], r[1], Scenes.holdingAtRate(r[0], 100, 100).release(0, 100));
        }
    }

    @Says(in = "Terms", text = "the others for the whole one, each kind by itself.")
    static void eachKindIsRoundedByItself() {
        Gaugerhall hall = fiveHundredLeftForHalf();
        hall.budget(1, 99, 0);
        hall.pass(1);
        Check.due("500 for 49 are 24.5, 16 for 99 are 1.584", 25, hall.release(0, 516));
        Gaugerhall wholes = fiveHundredLeftForHalf();
        wholes.budget(1, 99, 0);
        wholes.pass(1);
        Check.due("500 for 49 are 24.5, 10 for 99 are 0.99", 24, wholes.release(0, 510));
    }

    @Says(in = "Terms", text = "Each such leaving is a lot.")
    static void eachLeavingIsALot() {
        Gaugerhall two = Scenes.holding(9999, 1);
        two.release(0, 300);
        two.release(0, 300);
        Check.due("owed for two of 300", 2, two.duty(0));
        Check.due("1 times 299 of 300", 0, two.export(299));
        Check.due("1 times 1 of 1, and 1 times 299 of 300", 1, two.export(300));
        Gaugerhall one = Scenes.holding(9999, 1);
        one.release(0, 600);
        Check.due("owed for one of 600", 3, one.duty(0));
        Check.due("3 times 299 of 600", 1, one.export(299));
    }

    @Says(in = "Terms", text = "Each such leaving is a lot.")
    static void aLeavingWithoutDropsIsALot() {
        Check.refused("the 101st without drops", Check.STATE, TermsOfDutyEdges::hundredWithoutDrops, x -> x.release(0, 1));
        Gaugerhall hall = Scenes.holding(200, 0);
        Check.due("no drops", 0, hall.release(0, 1));
        hall.dip(1, 1, 960);
        hall.release(1, 1);
        Check.due("what is exported comes of the next lot", 4, hall.export(960));
    }

    private static Gaugerhall hundredWithoutDrops() {
        Gaugerhall hall = Scenes.holding(200, 0);
        for (int i = 0; i < 100; i++) {
            hall.release(0, 1);
        }
        return hall;
    }

    @Says(in = "Terms", text = "What is missing from stills was never made.")
    static void whatIsMissingFromStillsWasNeverMade() {
        Gaugerhall hall = Scenes.holding(0, 0);
        hall.run(0, 100, 10, 89, 10);
        Check.due("made", 890, hall.ledger(0));
        Check.due("never made", 10, hall.ledger(7));
        Check.due("MISSING", 0, hall.ledger(5));
        hall.lose(0, 1, false);
        Check.due("never made", 10, hall.ledger(7));
        Check.due("MISSING", 10, hall.ledger(5));
    }

    @Says(in = "Terms", text = "Drops that were made are in vessels, moving, PAID, EXCUSED, or MISSING")
    static void eachDropMadeHasAPlace() {
        Gaugerhall hall = Scenes.busy();
        isBalanced("busy", hall);
        hall.lose(0, 1, true);
        hall.lose(0, 1, false);
        isBalanced("broken", hall);
        hall.denature(0, 1);
        isBalanced("denatured", hall);
        hall.export(700);
        isBalanced("exported", hall);
        hall.dip(0, 1, 960);
        hall.dip(3, 500, 960);
        isBalanced("dipped", hall);
        hall.arrive(2, 0);
        isBalanced("nothing arrived", hall);
        hall.ship(3, 0, 500, 1);
        hall.pass(2);
        isBalanced("LOST", hall);
    }

    private static void isBalanced(String when, Gaugerhall hall) {
        int placed = 0;
        for (int what = 1; what <= 6; what++) {
            placed += hall.ledger(what);
        }
        Check.due("drops that have a place, " + when, hall.ledger(0), placed);
    }

    @Says(in = "Terms", text = "EXCUSED, or MISSING")
    static void whatIsExcusedAddsUp() {
        Gaugerhall hall = Scenes.holding(9999, 1);
        hall.lose(0, 100, true);
        hall.permit(50);
        hall.denature(0, 50);
        Check.due("broken and denatured", 150, hall.ledger(4));
        hall.dip(0, 9800, 1);
        Check.due("not found by a dip", 150 + 49, hall.ledger(4));
        hall.guarantee(4);
        hall.ship(0, 2, 400, 1);
        hall.arrive(0, 399);
        Check.due("not arrived", 199 + 1, hall.ledger(4));
        hall.shares(0, 500);
        hall.pass(1);
        Check.due("shares", 200 + 47, hall.ledger(4));
        hall.lose(0, 3, true);
        Check.due("broken", 247 + 3, hall.ledger(4));
        Check.due("MISSING", 0, hall.ledger(5));
    }

    @Says(in = "Terms", text = "EXCUSED, or MISSING")
    static void whatIsMissingAddsUp() {
        Gaugerhall hall = Scenes.holding(9999, 1);
        hall.lose(0, 99, false);
        hall.dip(0, 9800, 1);
        Check.due("broken, and not found by a dip", 99 + 100, hall.ledger(5));
        hall.guarantee(8);
        hall.ship(0, 2, 400, 1);
        hall.ship(0, 2, 400, 1);
        hall.arrive(0, 397);
        Check.due("not arrived", 199 + 3, hall.ledger(5));
        hall.pass(2);
        Check.due("LOST", 202 + 400, hall.ledger(5));
        hall.lose(0, 1, false);
        Check.due("broken", 602 + 1, hall.ledger(5));
        Check.due("EXCUSED", 0, hall.ledger(4));
    }

    @Says(in = "Terms", text = ARISES)
    static void dutyForWhatIsMissingArisesByTheWholeRate() {
        Gaugerhall still = Scenes.holding(0, 0);
        still.run(0, 2000, 100, 170, 1000 - 40);
        Check.due("16800 missing from a still", 168, still.duty(0));
        Gaugerhall broken = Scenes.holding(100, 100);
        broken.lose(0, 100, false);
        Check.due("10000 that break", 100, broken.duty(0));
        Gaugerhall dipped = Scenes.holding(100, 100);
        dipped.dip(0, 0, 0);
        Check.due("10000 that a dip does not find", 100, dipped.duty(0));
        Gaugerhall arrived = sent(100);
        arrived.arrive(0, 0);
        Check.due("10000 that do not arrive", 100, arrived.duty(0));
        Gaugerhall lost = sent(100);
        Check.due("10000 that are LOST", 100, lost.pass(2));
        for (Gaugerhall hall : new Gaugerhall[] {still, broken, dipped, arrived, lost}) {
            Check.due("none of them is for half of the rate", 1000000, hall.duty(3));
        }
    }

    /** All of 100 of this strength is sent, for a day. */
    private static Gaugerhall sent(int strength) {
        Gaugerhall hall = Scenes.holding(100, strength);
        hall.guarantee(strength);
        hall.ship(0, 2, 100, 1);
        return hall;
    }

    @Says(in = "Terms", text = ARISES)
    static void eachDutyForWhatIsMissingIsRoundedByItself() {
        Gaugerhall broken = Scenes.holding(100, 150);
        broken.lose(0, 1, false);
        broken.lose(0, 1, false);
        Check.due("two of 150 drops", 2, broken.duty(0));
        Gaugerhall lost = Scenes.holding(100, 150);
        lost.guarantee(3);
        lost.ship(0, 2, 1, 1);
        lost.ship(0, 2, 1, 1);
        Check.due("two of 150 drops, LOST on one day", 2, lost.pass(2));
        Gaugerhall stills = Scenes.holding(0, 0);
        stills.run(0, 200, 1, 30, 1);
        stills.run(0, 200, 1, 30, 1);
        Check.due("two of 150 drops, missing from stills", 2, stills.duty(0));
    }

    // ---- shares

    @Says(in = "Terms", text = SHARE)
    static void theShareOfTheDropsIsRoundedDown() {
        int[][] shares = {{1, 271, 369, 99999}, {1, 200, 500, 100000 - 1}, {1, 300, 666, 199800 - 1},
            {1, 400, 500, 200000 - 2}, {500, 199, 1, 199}, {500, 200, 1, 200 - 1}, {500, 399, 1, 399 - 1},
            {500, 400, 1, 400 - 2}, {0, 9999, 960, 9599040}};
        for (int[] s : shares) {
            Gaugerhall hall = Scenes.holding(s[1], s[2]);
            hall.shares(0, s[0]);
            hall.pass(1);
            Check.due(s[1] * s[2] + " drops at " + s[0], s[3], hall.ofVessel(0, 1));
        }
    }

    @Says(in = "Terms", text = "and so is the volume")
    static void theShareOfTheVolumeIsRoundedDown() {
        int[][] shares = {{10, 9999, 9999}, {11, 9999, 9998}, {500, 199, 199}, {500, 200, 199}, {500, 399, 398},
            {500, 400, 398}, {369, 271, 271}, {500, 1, 1}, {500, 9999, 9950}, {0, 9999, 9999}};
        for (int[] s : shares) {
            Gaugerhall hall = Scenes.holding(s[1], 0);
            hall.shares(0, s[0]);
            hall.pass(1);
            Check.due("a volume of " + s[1] + " at " + s[0], s[2], hall.ofVessel(0, 0));
        }
    }

    @Says(in = "Terms", text = SHARE)
    static void dropsTimesTheRateOfSharesDoNotWrapAround() {
        Gaugerhall hall = Scenes.holding(9999, 960);
        hall.shares(0, 500);
        hall.pass(1);
        Check.due("9599040 drops at 500", 9599040 - 47995, hall.ofVessel(0, 1));
        Check.due("EXCUSED", 47995, hall.ledger(4));
    }

    @Says(in = "Terms", text = "In a vessel at each day that begins")
    static void sharesAreTakenWithEachDayThatBegins() {
        Gaugerhall hall = Scenes.holding(1000, 100);
        hall.shares(0, 500);
        Check.due("when no day has begun", 100000, hall.ofVessel(0, 1));
        hall.pass(1);
        Check.due("a day", 99500, hall.ofVessel(0, 1));
        hall.pass(2);
        Check.due("two more days, less 497 and 495", 98508, hall.ofVessel(0, 1));
        Gaugerhall atOnce = Scenes.holding(1000, 100);
        atOnce.shares(0, 500);
        atOnce.pass(3);
        Check.due("three days at once", 98508, atOnce.ofVessel(0, 1));
        Check.due("volume, less 5, 4 and 4", 987, atOnce.ofVessel(0, 0));
    }

    @Says(in = "Terms", text = "the rate of shares of its place, 0 at first")
    static void sharesAreOfTheVesselsPlace() {
        Gaugerhall hall = Scenes.holding(1000, 100);
        hall.dip(2, 1000, 100);
        hall.pass(1);
        Check.due("0 at first", 100000, hall.ofVessel(0, 1));
        hall.shares(1, 500);
        hall.pass(1);
        Check.due("at place 0", 100000, hall.ofVessel(0, 1));
        Check.due("at place 1", 99500, hall.ofVessel(2, 1));
        hall.shares(1, 0);
        hall.shares(0, 500);
        hall.pass(1);
        Check.due("at place 0", 99500, hall.ofVessel(0, 1));
        Check.due("at place 1", 99500, hall.ofVessel(2, 1));
    }

    @Says(in = "Terms", text = "these drops are EXCUSED.")
    static void sharesAreExcused() {
        Gaugerhall hall = Scenes.holding(1000, 100);
        hall.dip(1, 1000, 10);
        hall.shares(0, 500);
        Check.due("owed", 0, hall.pass(1));
        Check.due("EXCUSED, of both", 500 + 50, hall.ledger(4));
        Check.due("MISSING", 0, hall.ledger(5));
        Check.due("made", 110000, hall.ledger(0));
    }

    // ---- what breaks, dips, what is denatured

    @Says(in = "Terms", text = "What breaks is EXCUSED, if somebody saw it, otherwise MISSING.")
    static void whatBreaksIsExcusedOrMissing() {
        Gaugerhall hall = Scenes.holding(10, 100);
        hall.lose(0, 1, true);
        Check.due("EXCUSED", 100, hall.ledger(4));
        Check.due("MISSING", 0, hall.ledger(5));
        hall.lose(0, 2, false);
        Check.due("EXCUSED", 100, hall.ledger(4));
        Check.due("MISSING", 200, hall.ledger(5));
    }

    @Says(in = "Terms", text = DIP_HAD_MORE)
    static void moreThanAHundredthIsMissing() {
        int[][] dips = {{0, 0, 0, 0}, {1, 0, 0, 1}, {99, 99, 0, 0}, {99, 98, 0, 1}, {100, 99, 1, 0}, {100, 98, 0, 2},
            {199, 198, 1, 0}, {199, 197, 0, 2}, {200, 198, 2, 0}, {200, 197, 0, 3}, {9999, 9900, 99, 0},
            {9999, 9899, 0, 100}, {9999, 0, 0, 9999}};
        for (int[] d : dips) {
            Gaugerhall hall = Scenes.holding(d[0], 1);
            String call = "dip of " + d[1] + " that had " + d[0];
            Check.due(call, d[0] - d[1], hall.dip(0, d[1], 1));
            Check.due(call + ", EXCUSED", d[2], hall.ledger(4));
            Check.due(call + ", MISSING", d[3], hall.ledger(5));
            Check.due(call + ", owed", d[3] / 100, hall.duty(0));
            Check.due(call + ", made", d[0], hall.ledger(0));
        }
    }

    @Says(in = "Terms", text = "what it had less was found: it counts as made, and nothing arises.")
    static void whatADipFindsCountsAsMade() {
        int[][] dips = {{100, 100, 0}, {100, 101, 1}, {100, 102, 2}, {0, 1, 1}, {0, 9999, 9999}, {1, 9999, 9998}};
        for (int[] d : dips) {
            Gaugerhall hall = Scenes.holding(d[0], 1);
            String call = "dip of " + d[1] + " that had " + d[0];
            Check.due(call, -d[2], hall.dip(0, d[1], 1));
            Check.due(call + ", made", d[1], hall.ledger(0));
            Check.due(call + ", EXCUSED", 0, hall.ledger(4));
            Check.due(call + ", MISSING", 0, hall.ledger(5));
            Check.due(call + ", owed", 0, hall.duty(0));
        }
    }

    @Says(in = "Terms", text = "The vessel has what was dipped from then on.")
    static void theVesselHasWhatWasDipped() {
        Gaugerhall hall = Scenes.holding(100, 500);
        int[][] dips = {{9999, 960}, {1, 1}, {0, 960}, {9999, 0}, {0, 0}, {5000, 3}};
        for (int[] d : dips) {
            hall.dip(0, d[0], d[1]);
            Check.due("volume", d[0], hall.ofVessel(0, 0));
            Check.due("drops", d[0] * d[1], hall.ofVessel(0, 1));
            Check.due("strength", d[0] == 0 ? 0 : d[1], hall.ofVessel(0, 2));
            Check.due("room", 9999 - d[0], hall.ofVessel(0, 4));
        }
        Check.due("nothing in the others", 0, hall.ofVessel(1, 1) + hall.ofVessel(2, 1));
    }

    @Says(in = "Terms", text = "Denatured drops are EXCUSED, as many as a permit allows still, 0 at first.")
    static void asManyAsAPermitAllowsStill() {
        Check.Scene none = () -> Scenes.holding(10, 1);
        Check.due("permitted at first", 0, none.make().duty(4));
        Check.refused("1 drop", Check.STATE, none, x -> x.denature(0, 1));
        Check.Scene five = () -> {
            Gaugerhall hall = Scenes.holding(10, 1);
            hall.permit(5);
            hall.denature(0, 2);
            return hall;
        };
        Check.due("permitted still", 3, five.make().duty(4));
        Gaugerhall all = Check.taken("3 drops", five, x -> x.denature(0, 3));
        Check.due("permitted still", 0, all.duty(4));
        Check.due("EXCUSED", 5, all.ledger(4));
        Check.due("owed", 0, all.duty(0));
        Check.refused("4 drops", Check.STATE, five, x -> x.denature(0, 4));
        Check.taken("no drops", () -> Scenes.holding(10, 0), x -> x.denature(0, 10));
    }

    // ---- budgets, exports

    @Says(in = "Terms", text = "A budget tells a rate from a later day on, and a quota")
    static void theRateComesOnItsDay() {
        Gaugerhall hall = Scenes.holding(9999, 1);
        hall.budget(2, 20, 5000);
        Check.due("rate today", 10, hall.duty(1));
        Check.due("quota today", 5000, hall.duty(2));
        hall.pass(1);
        Check.due("rate the day before", 10, hall.duty(1));
        Check.due("quota the day before", 5000, hall.duty(2));
        Check.due("duty the day before", 10, hall.lose(0, 1000, false));
        hall.pass(1);
        Check.due("rate on its day", 20, hall.duty(1));
        Check.due("quota on its day", Gaugerhall.NONE, hall.duty(2));
        Check.due("duty on its day", 20, hall.lose(0, 1000, false));
        hall.pass(1);
        Check.due("rate the day after", 20, hall.duty(1));
    }

    @Says(in = "Terms", text = QUOTA)
    static void atMostSoManyDropsCanLeaveBond() {
        Check.Scene scene = () -> underQuota(50);
        Check.due("just so many", 0, Check.taken("50 drops", scene, x -> x.release(0, 50)).duty(2));
        Check.due("one less", 1, Check.taken("49 drops", scene, x -> x.release(0, 49)).duty(2));
        Check.refused("51 drops", Check.STATE, scene, x -> x.release(0, 51));
        Check.Scene used = () -> {
            Gaugerhall hall = underQuota(50);
            hall.release(0, 30);
            return hall;
        };
        Check.due("left", 20, used.make().duty(2));
        Check.taken("20 more", used, x -> x.release(0, 20));
        Check.refused("21 more", Check.STATE, used, x -> x.release(0, 21));
    }

    /** 60 drops, of strength 1, left ahead of the budget, which comes on day 5; 9939 are there. */
    private static Gaugerhall underQuota(int quota) {
        Gaugerhall hall = Scenes.holding(9999, 1);
        hall.release(0, 60);
        hall.budget(5, 20, quota);
        return hall;
    }

    @Says(in = "Terms", text = QUOTA)
    static void aQuotaOf0LetsNoDropLeave() {
        Check.refused("1 drop", Check.STATE, () -> underQuota(0), x -> x.release(0, 1));
        Check.Scene water = () -> {
            Gaugerhall hall = underQuota(0);
            hall.dip(1, 10, 0);
            return hall;
        };
        Check.due("no drops may leave", 0, Check.taken("no drops", water, x -> x.release(1, 10)).duty(2));
    }

    @Says(in = "Terms", text = QUOTA)
    static void theQuotaHoldsUntilItsDay() {
        Check.Scene dayBefore = () -> {
            Gaugerhall hall = underQuota(50);
            hall.pass(4);
            return hall;
        };
        Check.refused("51 drops the day before", Check.STATE, dayBefore, x -> x.release(0, 51));
        Check.Scene itsDay = () -> {
            Gaugerhall hall = underQuota(50);
            hall.pass(5);
            return hall;
        };
        Check.taken("51 drops on its day", itsDay, x -> x.release(0, 51));
        Check.taken("all drops without a budget", () -> Scenes.holding(9999, 1), x -> x.release(0, 9999));
    }

    @Says(in = "Terms", text = QUOTA)
    static void onlyWhatLeavesBondCounts() {
        Gaugerhall hall = underQuota(50);
        hall.lose(0, 100, false);
        hall.lose(0, 100, true);
        hall.permit(100);
        hall.denature(0, 100);
        hall.guarantee(100);
        hall.ship(0, 2, 100, 1);
        hall.arrive(0, 90);
        hall.move(0, 1, 100);
        hall.dip(1, 0, 0);
        hall.export(60);
        Check.due("quota", 50, hall.duty(2));
    }

    @Says(in = "Terms", text = "One at a time.")
    static void budgetsAreToldOneAtATime() {
        for (int day : new int[] {1, 5, 6, 900}) {
            Check.refused("another for day " + day, Check.STATE, () -> underQuota(50), x -> Calls.budget(x, day, 1, 1));
        }
        Check.Scene dayBefore = () -> {
            Gaugerhall hall = underQuota(50);
            hall.pass(4);
            return hall;
        };
        Check.refused("another the day before", Check.STATE, dayBefore, x -> Calls.budget(x, 6, 1, 1));
        Check.Scene itsDay = () -> {
            Gaugerhall hall = underQuota(50);
            hall.pass(5);
            return hall;
        };
        Check.due("another on its day", 7, Check.taken("another", itsDay, x -> Calls.budget(x, 6, 1, 7)).duty(2));
    }

    @Says(in = "Terms", text = "An export takes PAID drops out of the lots, the oldest first; these are EXPORTED")
    static void theOldestLotsAreExportedFirst() {
        int[][] exports = {{1, 0}, {999, 4}, {1000, 5}, {1001, 5}, {1999, 5 + 9}, {2000, 5 + 10}};
        for (int[] e : exports) {
            Gaugerhall hall = twoLots();
            Check.due("export of " + e[0], e[1], hall.export(e[0]));
            Check.due("PAID", 2000 - e[0], hall.ledger(3));
            Check.due("EXPORTED", e[0], hall.ledger(6));
            Check.due("owed", 15 - e[1], hall.duty(0));
        }
    }

    /** A lot of 1000 drops for 5, and one for 10, the rate being 20 then. */
    private static Gaugerhall twoLots() {
        Gaugerhall hall = Scenes.holding(9999, 1);
        hall.release(0, 1000);
        hall.budget(1, 20, 0);
        hall.pass(1);
        hall.release(0, 1000);
        return hall;
    }

    @Says(in = "Terms", text = OWED_LESS)
    static void whatIsOwedLessIsRoundedDownForEachLot() {
        Check.due("5 times 199 of 1000", 0, twoLots().export(199));
        Check.due("5 times 200 of 1000", 1, twoLots().export(200));
        Check.due("5, and 10 times 99 of 1000", 5, twoLots().export(1099));
        Check.due("5, and 10 times 100 of 1000", 6, twoLots().export(1100));
        Gaugerhall hall = twoLots();
        hall.export(900);
        Check.due("1 times 99 of 100, and nothing else", 0, hall.export(99));
        Check.due("1 times 1 of 1, and 10 times 199 of 1000", 1 + 1, hall.export(200));
    }

    @Says(in = "Terms", text = OWED_LESS)
    static void paidTimesTakenDoesNotWrapAround() {
        Gaugerhall hall = Scenes.holdingAtRate(99, 9999, 960);
        Check.due("1000000 for 49, the others for 99", 49000 + 851304, hall.release(0, 9999));
        Check.due("half of it", 450152, hall.export(4799520));
        Check.due("the other half", 450152, hall.export(4799520));
    }

    @Says(in = "Terms", text = "these are EXPORTED")
    static void whatIsExportedAddsUp() {
        Gaugerhall hall = twoLots();
        int exported = 0;
        for (int drops : new int[] {1, 998, 2, 999}) {
            hall.export(drops);
            exported += drops;
            Check.due("EXPORTED", exported, hall.ledger(6));
            Check.due("PAID", 2000 - exported, hall.ledger(3));
        }
    }

    @Says(in = "Terms", text = "the lot has so much less, of both.")
    static void theLotHasLessOfBoth() {
        Gaugerhall hall = twoLots();
        Check.due("5 times 300 of 1000", 1, hall.export(300));
        Check.due("4 times 300 of 700", 1, hall.export(300));
        Check.due("3 times 300 of 400", 2, hall.export(300));
        Check.due("1 times 99 of 100", 0, hall.export(99));
        Check.due("1 times 1 of 1", 1, hall.export(1));
        Check.due("all of the next", 10, hall.export(1000));
        Check.due("owed", 0, hall.duty(0));
    }

    // ---- exceptions

    @Says(in = "Terms", text = "If several apply, the one that the throws clause names first is thrown.")
    static void whichExceptionOfDutyCalls() {
        Check.Scene busy = Scenes::busy;
        Check.refused("release, Index and Argument", Check.INDEX, busy, x -> x.release(4, 0));
        Check.refused("release, Index and State", Check.INDEX, busy, x -> x.release(-1, 9999));
        Check.refused("release, Argument of an empty one", Check.ARGUMENT, busy, x -> x.release(3, 0));
        Check.refused("denature, Index and Argument", Check.INDEX, busy, x -> x.denature(4, 0));
        Check.refused("denature, Index and State", Check.INDEX, busy, x -> x.denature(-1, 9999));
        Check.refused("denature, Argument of an empty one", Check.ARGUMENT, busy, x -> x.denature(3, 0));
        Check.refused("export, Argument without a lot", Check.ARGUMENT, Gaugerhall::new, x -> x.export(0));
        Check.refused("pay, Argument with nothing owed", Check.ARGUMENT, Gaugerhall::new, x -> x.pay(0));
        Check.refused("pay, Argument and more than is owed", Check.ARGUMENT, busy, x -> x.pay(1000000));
        Check.refused("budget, day and one is told", Check.ARGUMENT, busy, x -> Calls.budget(x, 3, 1, 1));
        Check.refused("budget, rate and one is told", Check.ARGUMENT, busy, x -> Calls.budget(x, 4, 100, 1));
        Check.refused("budget, quota and one is told", Check.ARGUMENT, busy, x -> Calls.budget(x, 4, 1, -1));
    }
}
