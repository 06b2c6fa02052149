/** Promises 1 to 7: a new object, vessels, shares, runs, moves, dips, losses. */
public final class VesselsTest {
    public static void main(String[] args) {
        aNewObject();
        vessel();
        vesselRefuses();
        shares();
        runMakesDropsAndTellsWhatIsMissing();
        runMixesAndShrinks();
        runRefuses();
        runsAreCounted();
        move();
        moveRefuses();
        dipThatFindsLess();
        dipThatFindsMore();
        dipRefuses();
        dipsAreCounted();
        lose();
        loseRefuses();
        Check.end();
    }

    /** Two vessels at place 0, one at place 1; vessel 0 holds 200 of strength 500, nothing is missing. */
    private static Gaugerhall filled() {
        Gaugerhall hall = new Gaugerhall();
        hall.vessel(0, 1000);
        hall.vessel(0, 500);
        hall.vessel(1, 500);
        hall.run(0, 1000, 100, 200, 500);
        return hall;
    }

    private static Gaugerhall tenVessels() {
        Gaugerhall hall = new Gaugerhall();
        for (int i = 0; i < 10; i++) {
            Check.due("vessel", i, hall.vessel(i % 4, 100 + i));
        }
        return hall;
    }

    private static void aNewObject() {
        Gaugerhall hall = new Gaugerhall();
        Check.due("day", 0, hall.day());
        for (int what = 0; what < 8; what++) {
            Check.due("ledger " + what, 0, hall.ledger(what));
        }
        int[] duty = {0, 10, Gaugerhall.NONE, 1000000, 0, 0};
        for (int what = 0; what < duty.length; what++) {
            Check.due("duty " + what, duty[what], hall.duty(what));
        }
        Check.refused("ofVessel of a new object", Check.INDEX, Gaugerhall::new, x -> x.ofVessel(0, 0));
        Check.refused("ofMovement of a new object", Check.INDEX, Gaugerhall::new, x -> x.ofMovement(0, 0));
        Gaugerhall other = filled();
        other.pass(3);
        Check.dueText("another object", Trace.of(new Gaugerhall()), Trace.of(hall));
    }

    private static void vessel() {
        Gaugerhall hall = new Gaugerhall();
        Check.due("vessel(3, 1)", 0, hall.vessel(3, 1));
        Check.due("vessel(0, 9999)", 1, hall.vessel(0, 9999));
        Check.due("place", 3, hall.ofVessel(0, 3));
        Check.due("place", 0, hall.ofVessel(1, 3));
        Check.due("room", 1, hall.ofVessel(0, 4));
        Check.due("room", 9999, hall.ofVessel(1, 4));
        for (int what = 0; what < 3; what++) {
            Check.due("ofVessel of an empty one", 0, hall.ofVessel(1, what));
        }
        Gaugerhall ten = tenVessels();
        Check.due("room of the tenth", 109, ten.ofVessel(9, 4));
    }

    private static void vesselRefuses() {
        Check.refused("vessel(-1, 5)", Check.INDEX, VesselsTest::filled, x -> x.vessel(-1, 5));
        Check.refused("vessel(4, 5)", Check.INDEX, VesselsTest::filled, x -> x.vessel(4, 5));
        Check.refused("vessel(4, 0)", Check.INDEX, VesselsTest::filled, x -> x.vessel(4, 0));
        Check.refused("vessel(0, 0)", Check.ARGUMENT, VesselsTest::filled, x -> x.vessel(0, 0));
        Check.refused("vessel(0, 10000)", Check.ARGUMENT, VesselsTest::filled, x -> x.vessel(0, 10000));
        Check.refused("the eleventh", Check.STATE, VesselsTest::tenVessels, x -> x.vessel(0, 5));
        Check.refused("the eleventh of 0", Check.ARGUMENT, VesselsTest::tenVessels, x -> x.vessel(0, 0));
        Check.refused("the eleventh nowhere", Check.INDEX, VesselsTest::tenVessels, x -> x.vessel(4, 0));
    }

    private static void shares() {
        Gaugerhall hall = filled();
        hall.run(2, 1000, 100, 200, 500);
        Check.due("shares(0, 500)", 0, hall.shares(0, 500));
        Check.due("shares(1, 3)", 0, hall.shares(1, 3));
        Check.due("shares(0, 499)", 500, hall.shares(0, 499));
        Check.due("shares(0, 0)", 499, hall.shares(0, 0));
        Check.due("shares(0, 500)", 0, hall.shares(0, 500));
        Check.due("shares(1, 0)", 3, hall.shares(1, 0));
        Check.due("shares(3, 0)", 0, hall.shares(3, 0));
        Check.due("drops, no day having begun", 100000, hall.ofVessel(0, 1));
        hall.pass(1);
        Check.due("drops at place 0", 99500, hall.ofVessel(0, 1));
        Check.due("volume at place 0", 199, hall.ofVessel(0, 0));
        Check.due("drops at place 1", 100000, hall.ofVessel(2, 1));
        Check.refused("shares(-1, 5)", Check.INDEX, VesselsTest::filled, x -> x.shares(-1, 5));
        Check.refused("shares(4, 5)", Check.INDEX, VesselsTest::filled, x -> x.shares(4, 5));
        Check.refused("shares(4, 501)", Check.INDEX, VesselsTest::filled, x -> x.shares(4, 501));
        Check.refused("shares(0, -1)", Check.ARGUMENT, VesselsTest::filled, x -> x.shares(0, -1));
        Check.refused("shares(0, 501)", Check.ARGUMENT, VesselsTest::filled, x -> x.shares(0, 501));
    }

    private static void runMakesDropsAndTellsWhatIsMissing() {
        Gaugerhall hall = new Gaugerhall();
        hall.vessel(0, 9999);
        Check.due("as many as the wash had", 0, hall.run(0, 1000, 100, 200, 500));
        Check.due("just nine tenths", 0, hall.run(0, 1000, 100, 180, 500));
        Check.due("made", 190000, hall.ledger(0));
        Check.due("never made", 0, hall.ledger(7));
        Check.due("below nine tenths by 400", 400, hall.run(0, 1000, 100, 224, 400));
        Check.due("duty for 400", 4, hall.duty(0));
        Check.due("nine tenths of 222 are 199", 198, hall.run(0, 1, 222, 1, 1));
        Check.due("duty for 198 besides", 5, hall.duty(0));
        Check.due("never made", 598, hall.ledger(7));
        Check.due("made", 279601, hall.ledger(0));
        Check.due("in vessels", 279601, hall.ledger(1));
        Check.due("missing otherwise", 0, hall.ledger(5));
        Check.due("nine tenths of 11, rounded down, are 9", 0, hall.run(0, 11, 1, 9, 1));
        Check.due("nine tenths of 11 less 8", 1, hall.run(0, 11, 1, 8, 1));
        Check.due("nine tenths of 19 are 17", 1, hall.run(0, 19, 1, 16, 1));
        Check.due("the least run", 0, hall.run(0, 1, 1, 1, 1));

        Gaugerhall rich = new Gaugerhall();
        rich.vessel(0, 9999);
        Check.due("the greatest wash", 2699730 - 960, rich.run(0, 9999, 300, 1, 960));
        Check.due("its duty", 26987, rich.duty(0));

        Gaugerhall taxed = new Gaugerhall();
        taxed.vessel(0, 9999);
        taxed.budget(1, 99, 0);
        taxed.pass(1);
        taxed.run(0, 100, 100, 80, 100);
        Check.due("duty for 1000 by the rate of the budget", 99, taxed.duty(0));
    }

    private static void runMixesAndShrinks() {
        Gaugerhall hall = new Gaugerhall();
        hall.vessel(0, 9999);
        hall.run(0, 9999, 300, 100, 960);
        Check.due("volume in an empty one", 100, hall.ofVessel(0, 0));
        Check.due("strength", 960, hall.ofVessel(0, 2));
        hall.run(0, 1000, 10, 100, 1);
        Check.due("100 and 100, 959 apart", 191, hall.ofVessel(0, 0));
        Check.due("drops", 96100, hall.ofVessel(0, 1));
        Check.due("strength, rounded down", 503, hall.ofVessel(0, 2));
        Check.due("room", 9808, hall.ofVessel(0, 4));
        hall.run(0, 1000, 10, 20, 3);
        Check.due("the lesser volume counts, the vessel's strength being 503", 210, hall.ofVessel(0, 0));
        hall.run(0, 9999, 300, 3000, 900);
        Check.due("the lesser volume is the vessel's, 457 and 900 being 443 apart", 3210 - 9, hall.ofVessel(0, 0));

        Gaugerhall halves = new Gaugerhall();
        halves.vessel(0, 9999);
        halves.vessel(0, 9999);
        halves.run(0, 9999, 2, 2000, 2);
        halves.run(0, 9999, 2, 2000, 3);
        Check.due("2000 and 2000, 1 apart, do not shrink", 4000, halves.ofVessel(0, 0));
        halves.dip(1, 4000, 0);
        halves.move(1, 0, 4000);
        Check.due("a strength of two and a half counts as 2", 8000, halves.ofVessel(0, 0));

        int[][] edges = {{33, 303, 66}, {40, 250, 79}, {1, 960, 2}};
        for (int[] e : edges) {
            Gaugerhall edge = new Gaugerhall();
            edge.vessel(0, 9999);
            edge.dip(0, e[0], 0);
            edge.run(0, 9999, 300, e[0], e[1]);
            Check.due(e[0] + " and " + e[0] + ", " + e[1] + " apart", e[2], edge.ofVessel(0, 0));
        }
    }

    private static void runRefuses() {
        Check.refused("run(-1, ..)", Check.INDEX, VesselsTest::filled, x -> x.run(-1, 1, 1, 1, 1));
        Check.refused("run(3, ..)", Check.INDEX, VesselsTest::filled, x -> x.run(3, 1, 1, 1, 1));
        Check.refused("run(3, 0, ..)", Check.INDEX, VesselsTest::filled, x -> x.run(3, 0, 0, 0, 0));
        int[][] wrong = {{0, 1, 1, 1}, {10000, 1, 1, 1}, {1, 0, 1, 1}, {1, 301, 1, 1}, {1, 1, 0, 1}, {1, 1, 10000, 1},
            {1, 1, 1, 0}, {1, 1, 1, 961}, {-1, -1, -1, -1}, {10000, 300, 10000, 1}, {1, 1, 1, 961}};
        for (int[] w : wrong) {
            Check.refused("run out of range", Check.ARGUMENT, VesselsTest::filled, x -> x.run(0, w[0], w[1], w[2], w[3]));
        }
        Check.refused("one drop too many", Check.STATE, VesselsTest::filled, x -> x.run(0, 100, 5, 3, 167));
        Check.refused("no room", Check.STATE, VesselsTest::filled, x -> x.run(0, 1000, 100, 801, 1));
        Gaugerhall hall = filled();
        hall.run(0, 1000, 100, 800, 1);
        Check.due("just room, ahead of shrinking", 1000 - 9, hall.ofVessel(0, 0));
    }

    private static Gaugerhall sixtyRuns() {
        Gaugerhall hall = new Gaugerhall();
        hall.vessel(0, 9999);
        for (int i = 0; i < 60; i++) {
            hall.run(0, 1, 10, 1, 10);
            try {
                hall.run(0, 1, 10, 1, 11);
                Check.complain("more drops than the wash had");
            } catch (IllegalStateException e) {
                continue;
            }
        }
        return hall;
    }

    private static void runsAreCounted() {
        Check.due("60 runs", 600, sixtyRuns().ledger(0));
        Check.refused("the 61st", Check.STATE, VesselsTest::sixtyRuns, x -> x.run(0, 1, 10, 1, 10));
        Check.refused("the 61st of 0", Check.ARGUMENT, VesselsTest::sixtyRuns, x -> x.run(0, 0, 10, 1, 10));
        Check.refused("the 61st nowhere", Check.INDEX, VesselsTest::sixtyRuns, x -> x.run(1, 1, 10, 1, 10));
    }

    private static void move() {
        Gaugerhall hall = filled();
        Check.due("move to an empty one", 150, hall.move(0, 1, 150));
        Check.due("drops there", 75000, hall.ofVessel(1, 1));
        Check.due("drops left", 25000, hall.ofVessel(0, 1));
        Check.due("volume left", 50, hall.ofVessel(0, 0));
        hall.dip(1, 150, 100);
        Check.due("50 of 500 to 150 of 100", 198, hall.move(0, 1, 50));
        Check.due("no drop is lost", 40000, hall.ofVessel(1, 1));
        Check.due("nothing is left", 0, hall.ofVessel(0, 0));
        Check.due("no drops are left", 0, hall.ofVessel(0, 1));
        Check.due("back to the empty one", 198, hall.move(1, 0, 198));
        Check.due("with all drops", 40000, hall.ofVessel(0, 1));

        Gaugerhall odd = new Gaugerhall();
        odd.vessel(2, 10);
        odd.vessel(2, 10);
        odd.run(0, 10, 2, 2, 2);
        odd.run(0, 10, 2, 1, 3);
        odd.move(0, 1, 1);
        Check.due("a third of 7, rounded down", 2, odd.ofVessel(1, 1));
        Check.due("the rest stays", 5, odd.ofVessel(0, 1));
        Check.due("made", 7, odd.ledger(0));
    }

    private static void moveRefuses() {
        Check.refused("from -1", Check.INDEX, VesselsTest::filled, x -> x.move(-1, 0, 1));
        Check.refused("from 3", Check.INDEX, VesselsTest::filled, x -> x.move(3, 0, 1));
        Check.refused("to -1", Check.INDEX, VesselsTest::filled, x -> x.move(0, -1, 1));
        Check.refused("to 3", Check.INDEX, VesselsTest::filled, x -> x.move(0, 3, 1));
        Check.refused("3 to 3", Check.INDEX, VesselsTest::filled, x -> x.move(3, 3, 0));
        Check.refused("0 to 3 of 0", Check.INDEX, VesselsTest::filled, x -> x.move(0, 3, 0));
        Check.refused("to itself", Check.ARGUMENT, VesselsTest::filled, x -> x.move(0, 0, 1));
        Check.refused("to itself too much", Check.ARGUMENT, VesselsTest::filled, x -> x.move(0, 0, 9999));
        Check.refused("volume 0", Check.ARGUMENT, VesselsTest::filled, x -> x.move(0, 1, 0));
        Check.refused("volume -1", Check.ARGUMENT, VesselsTest::filled, x -> x.move(0, 1, Integer.MIN_VALUE));
        Check.refused("volume 0 to another place", Check.ARGUMENT, VesselsTest::filled, x -> x.move(0, 2, 0));
        Check.refused("another place", Check.STATE, VesselsTest::filled, x -> x.move(0, 2, 1));
        Check.refused("too much", Check.STATE, VesselsTest::filled, x -> x.move(0, 1, 201));
        Check.refused("far too much", Check.STATE, VesselsTest::filled, x -> x.move(0, 1, Integer.MAX_VALUE));
        Check.refused("from an empty one", Check.STATE, VesselsTest::filled, x -> x.move(1, 0, 1));
        Check.refused("no room", Check.STATE, VesselsTest::nearlyFull, x -> x.move(0, 1, 101));
        Gaugerhall hall = nearlyFull();
        Check.due("just room, ahead of shrinking", 500 - 4, hall.move(0, 1, 100));
    }

    /** Vessel 1 holds 400 of strength 50, and has room for 100. */
    private static Gaugerhall nearlyFull() {
        Gaugerhall hall = filled();
        hall.dip(1, 400, 50);
        return hall;
    }

    private static void dipThatFindsLess() {
        Gaugerhall hall = filled();
        Check.due("a hundredth more", 1000, hall.dip(0, 200, 495));
        Check.due("EXCUSED", 1000, hall.ledger(4));
        Check.due("MISSING", 0, hall.ledger(5));
        Check.due("owed", 0, hall.duty(0));
        Check.due("drops", 99000, hall.ofVessel(0, 1));
        Check.due("more than a hundredth more", 1000, hall.dip(0, 200, 490));
        Check.due("EXCUSED", 1000, hall.ledger(4));
        Check.due("MISSING", 1000, hall.ledger(5));
        Check.due("owed", 10, hall.duty(0));
        Check.due("all of it", 98000, hall.dip(0, 0, 960));
        Check.due("volume", 0, hall.ofVessel(0, 0));
        Check.due("drops", 0, hall.ofVessel(0, 1));
        Check.due("strength", 0, hall.ofVessel(0, 2));
        Check.due("MISSING", 99000, hall.ledger(5));
        Check.due("owed", 990, hall.duty(0));
        Check.due("made", 100000, hall.ledger(0));

        Gaugerhall small = new Gaugerhall();
        small.vessel(0, 5);
        small.run(0, 1, 100, 1, 100);
        small.dip(0, 1, 99);
        Check.due("1 of 100 is EXCUSED", 1, small.ledger(4));
        small.dip(0, 1, 98);
        Check.due("1 of 99 is not", 1, small.ledger(4));
        Check.due("1 of 99 is MISSING", 1, small.ledger(5));
        Check.due("strength of a volume of 1", 98, small.ofVessel(0, 2));
        small.dip(0, 1, 99);
        Check.due("1 more is found", 101, small.ledger(0));
        Check.due("EXCUSED, as it was", 1, small.ledger(4));
        small.lose(0, 1, true);
        Check.due("1 of a volume of 1 has all its drops", 100, small.ledger(4));
    }

    private static void dipThatFindsMore() {
        Gaugerhall hall = filled();
        Check.due("as it was", 0, hall.dip(0, 200, 500));
        Check.due("as it was but for the volume", 0, hall.dip(0, 1000, 100));
        Check.due("volume", 1000, hall.ofVessel(0, 0));
        Check.due("strength", 100, hall.ofVessel(0, 2));
        Check.due("less than was found", -20000, hall.dip(0, 800, 150));
        Check.due("volume, nothing shrinking", 800, hall.ofVessel(0, 0));
        Check.due("drops", 120000, hall.ofVessel(0, 1));
        Check.due("made", 120000, hall.ledger(0));
        Check.due("EXCUSED", 0, hall.ledger(4));
        Check.due("MISSING", 0, hall.ledger(5));
        Check.due("owed", 0, hall.duty(0));
        Check.due("never made", 0, hall.ledger(7));
        Check.due("in an empty one", -480000, hall.dip(1, 500, 960));
        Check.due("made", 600000, hall.ledger(0));
        Check.due("room", 0, hall.ofVessel(1, 4));
    }

    private static void dipRefuses() {
        Check.refused("dip(-1, ..)", Check.INDEX, VesselsTest::filled, x -> x.dip(-1, 0, 0));
        Check.refused("dip(3, ..)", Check.INDEX, VesselsTest::filled, x -> x.dip(3, 0, 0));
        Check.refused("dip(3, -1, -1)", Check.INDEX, VesselsTest::filled, x -> x.dip(3, -1, -1));
        Check.refused("volume -1", Check.ARGUMENT, VesselsTest::filled, x -> x.dip(0, -1, 0));
        Check.refused("volume above the capacity", Check.ARGUMENT, VesselsTest::filled, x -> x.dip(1, 501, 0));
        Check.refused("strength -1", Check.ARGUMENT, VesselsTest::filled, x -> x.dip(0, 5, -1));
        Check.refused("strength 961", Check.ARGUMENT, VesselsTest::filled, x -> x.dip(0, 5, 961));
    }

    private static Gaugerhall sixtyDips() {
        Gaugerhall hall = filled();
        for (int i = 0; i < 60; i++) {
            hall.dip(0, i, 1);
            try {
                hall.dip(0, i, 961);
                Check.complain("a strength out of range");
            } catch (IllegalArgumentException e) {
                continue;
            }
        }
        return hall;
    }

    private static void dipsAreCounted() {
        Check.due("after 60 dips", 59, sixtyDips().ofVessel(0, 1));
        Check.refused("the 61st", Check.STATE, VesselsTest::sixtyDips, x -> x.dip(0, 1, 1));
        Check.refused("the 61st of another vessel", Check.STATE, VesselsTest::sixtyDips, x -> x.dip(1, 1, 1));
        Check.refused("the 61st of 961", Check.ARGUMENT, VesselsTest::sixtyDips, x -> x.dip(0, 1, 961));
        Check.refused("the 61st nowhere", Check.INDEX, VesselsTest::sixtyDips, x -> x.dip(9, 1, 1));
    }

    private static void lose() {
        Gaugerhall hall = filled();
        Check.due("seen", 0, hall.lose(0, 1, true));
        Check.due("EXCUSED", 500, hall.ledger(4));
        Check.due("owed", 0, hall.duty(0));
        Check.due("not seen", 75, hall.lose(0, 15, false));
        Check.due("MISSING", 7500, hall.ledger(5));
        Check.due("not seen either", 75, hall.lose(0, 15, false));
        Check.due("owed", 150, hall.duty(0));
        Check.due("volume", 169, hall.ofVessel(0, 0));
        Check.due("drops", 84500, hall.ofVessel(0, 1));
        Check.due("all the rest", 845, hall.lose(0, 169, false));
        Check.due("drops", 0, hall.ofVessel(0, 1));
        Check.due("MISSING", 99500, hall.ledger(5));
        Check.due("EXCUSED", 500, hall.ledger(4));
        Check.due("never made", 0, hall.ledger(7));

        Gaugerhall odd = new Gaugerhall();
        odd.vessel(0, 9);
        odd.dip(0, 2, 2);
        odd.run(0, 500, 1, 1, 499);
        Check.due("a third of 503 are 167, their duty 1", 1, odd.lose(0, 1, false));
        Check.due("MISSING", 167, odd.ledger(5));
        Check.due("half of 336 are 168, their duty 1", 1, odd.lose(0, 1, false));
        Check.due("owed", 2, odd.duty(0));
    }

    private static void loseRefuses() {
        Check.refused("lose(-1, ..)", Check.INDEX, VesselsTest::filled, x -> x.lose(-1, 1, true));
        Check.refused("lose(3, ..)", Check.INDEX, VesselsTest::filled, x -> x.lose(3, 1, true));
        Check.refused("lose(3, 0, ..)", Check.INDEX, VesselsTest::filled, x -> x.lose(3, 0, true));
        Check.refused("volume 0", Check.ARGUMENT, VesselsTest::filled, x -> x.lose(0, 0, true));
        Check.refused("volume below 0", Check.ARGUMENT, VesselsTest::filled, x -> x.lose(0, -5, false));
        Check.refused("too much, seen", Check.STATE, VesselsTest::filled, x -> x.lose(0, 201, true));
        Check.refused("too much, not seen", Check.STATE, VesselsTest::filled, x -> x.lose(0, 201, false));
        Check.refused("from an empty one", Check.STATE, VesselsTest::filled, x -> x.lose(1, 1, true));
    }
}
