/** The section 'Terms', up to what a run of a still makes. */
final class TermsOfVesselsEdges {
    private static final String PART = "A part of a volume taken out has the part of the drops";
    private static final String DIVISIONS = "All divisions are rounded down.";
    private static final String ROOM = "There is room for what, together with the volume that is there, is at most the"
        + " capacity, ahead of shrinking.";
    private static final String SHRINKS = "the volume is less by the lesser one of both, times the difference of both"
        + " strengths, divided by 10000";
    private static final String NINE_TENTHS = "If it is less than nine tenths of these, the rest up to that is missing.";

    private TermsOfVesselsEdges() {
    }

    @Says(in = "Terms", text = "strengths, duties, the ledger and what is owed are asked, which changes nothing.")
    static void askingChangesNothing() {
        Gaugerhall hall = Scenes.busy();
        String first = Trace.of(hall);
        Check.dueText("asked again", first, Trace.of(hall));
        Gaugerhall asked = Scenes.busy();
        asked.dropsAnew(0);
        asked.day();
        Check.dueText("asked or not", Trace.withFuture(Scenes.busy()), Trace.withFuture(asked));
    }

    // ---- divisions

    @Says(in = "Terms", text = DIVISIONS)
    static void strengthIsRoundedDown() {
        Check.due("7 drops in 3", 2, Scenes.sevenInThree().ofVessel(0, 2));
        Check.due("8 drops in 3", 2, Scenes.mixed(2, 3, 1, 2).ofVessel(0, 2));
        Check.due("9 drops in 3", 3, Scenes.mixed(2, 4, 1, 1).ofVessel(0, 2));
        Check.due("960 drops in 2", 480, Scenes.mixed(1, 959, 1, 1).ofVessel(0, 2));
        Check.due("959 drops in 2", 479, Scenes.mixed(1, 958, 1, 1).ofVessel(0, 2));
    }

    @Says(in = "Terms", text = DIVISIONS)
    static void strengthsAreRoundedDownAheadOfTheirDifference() {
        Gaugerhall hall = Scenes.mixed(2000, 2, 2000, 3);
        Check.due("drops of 4000, of 2 and a half", 10000, hall.ofVessel(0, 1));
        hall.dip(1, 3500, 5);
        Check.due("3500 times 3, not 2 and a half", 7500 - 1, hall.move(1, 0, 3500));
        Gaugerhall lower = Scenes.mixed(2000, 2, 2000, 3);
        lower.dip(1, 4000, 0);
        Check.due("4000 times 2, not 2 and a half", 8000, lower.move(1, 0, 4000));
    }

    @Says(in = "Terms", text = DIVISIONS)
    static void nineTenthsAreRoundedDown() {
        Gaugerhall hall = Scenes.holding(0, 0);
        Check.due("9 of 19, whose nine tenths are 17", 8, hall.run(0, 19, 1, 9, 1));
        Check.due("17 of 19", 0, hall.run(0, 19, 1, 17, 1));
        Check.due("9 of 11, whose nine tenths are 9", 0, hall.run(0, 11, 1, 9, 1));
        Check.due("1 of 2, whose nine tenths are 1", 0, hall.run(0, 2, 1, 1, 1));
    }

    @Says(in = "Terms", text = DIVISIONS)
    static void dutyIsRoundedDown() {
        Check.due("99 drops", 0, Scenes.holding(99, 1).lose(0, 99, false));
        Check.due("100 drops", 1, Scenes.holding(100, 1).lose(0, 100, false));
        Check.due("199 drops", 1, Scenes.holding(199, 1).lose(0, 199, false));
        Check.due("200 drops", 2, Scenes.holding(200, 1).lose(0, 200, false));
    }

    // ---- days and vessels

    @Says(in = "Terms", text = "Days are counted from 0, at most 900.")
    static void daysAreCountedFrom0To900() {
        Gaugerhall hall = new Gaugerhall();
        Check.due("the first day", 0, hall.day());
        Scenes.passTo(hall, 899);
        Check.due("the last but one", 899, hall.day());
        hall.pass(1);
        Check.due("the last", 900, hall.day());
        for (int days : new int[] {1, 2, 60}) {
            Check.refused("pass(" + days + ")", Check.STATE, TermsOfVesselsEdges::onTheLastDay, x -> x.pass(days));
        }
    }

    private static Gaugerhall onTheLastDay() {
        Gaugerhall hall = Scenes.busy();
        Scenes.passTo(hall, 900);
        return hall;
    }

    @Says(in = "Terms", text = "Vessels are numbered from 0, at most 10, each at a place, 0 to 3, with a capacity")
    static void vesselsAreNumberedFrom0To9() {
        Gaugerhall hall = tenVessels();
        for (int number = 0; number < 10; number++) {
            Check.due("place of " + number, number % 4, hall.ofVessel(number, 3));
            Check.due("room of " + number, number + 1, hall.ofVessel(number, 4));
        }
        Check.refused("the eleventh", Check.STATE, TermsOfVesselsEdges::tenVessels, x -> x.vessel(0, 1));
        Check.refused("number -1", Check.INDEX, TermsOfVesselsEdges::tenVessels, x -> x.ofVessel(-1, 0));
        Check.refused("number 10", Check.INDEX, TermsOfVesselsEdges::tenVessels, x -> x.ofVessel(10, 0));
    }

    private static Gaugerhall tenVessels() {
        Gaugerhall hall = new Gaugerhall();
        for (int number = 0; number < 10; number++) {
            Check.due("number", number, hall.vessel(number % 4, number + 1));
        }
        return hall;
    }

    @Says(in = "Terms", text = "a vessel holds a volume, 0 at first, and drops of alcohol.")
    static void aVesselHoldsNothingAtFirst() {
        Gaugerhall hall = new Gaugerhall();
        hall.vessel(2, 9999);
        Check.due("volume", 0, hall.ofVessel(0, 0));
        Check.due("drops", 0, hall.ofVessel(0, 1));
        hall.run(0, 1, 1, 1, 1);
        Check.due("volume", 1, hall.ofVessel(0, 0));
        Check.due("drops", 1, hall.ofVessel(0, 1));
    }

    @Says(in = "Terms", text = "Its strength is its drops divided by its volume")
    static void strengthIsDropsDividedByVolume() {
        Check.due("9 drops in 10", 0, Scenes.mixed(9, 1, 1, 0).ofVessel(0, 2));
        Check.due("10 drops in 10", 1, Scenes.holding(10, 1).ofVessel(0, 2));
        Check.due("19 drops in 10", 1, Scenes.mixed(9, 2, 1, 1).ofVessel(0, 2));
        Check.due("20 drops in 10", 2, Scenes.holding(10, 2).ofVessel(0, 2));
        Check.due("a volume of 1", 960, Scenes.holding(1, 960).ofVessel(0, 2));
        Check.due("a full vessel", 960, Scenes.holding(9999, 960).ofVessel(0, 2));
        Check.due("a volume without drops", 0, Scenes.holding(9999, 0).ofVessel(0, 2));
    }

    @Says(in = "Terms", text = "0 of an empty one.")
    static void strengthOfAnEmptyVesselIs0() {
        Check.due("one that was never filled", 0, Scenes.holding(1, 960).ofVessel(1, 2));
        Check.due("one that is dipped as empty", 0, Scenes.holding(0, 960).ofVessel(0, 2));
        Gaugerhall emptied = Scenes.holding(1, 960);
        emptied.move(0, 1, 1);
        Check.due("one that all was taken out of", 0, emptied.ofVessel(0, 2));
        Check.due("drops of that", 0, emptied.ofVessel(0, 1));
        Check.due("where it went", 960, emptied.ofVessel(1, 2));
    }

    // ---- parts

    @Says(in = "Terms", text = PART)
    static void aPartThatBreaksHasThePartOfTheDrops() {
        int[] due = {0, 2, 4, 7};
        for (int volume = 1; volume <= 3; volume++) {
            Gaugerhall hall = Scenes.sevenInThree();
            hall.lose(0, volume, true);
            Check.due(volume + " of 3 break of 7 drops", due[volume], hall.ledger(4));
            Check.due("drops that stay", 7 - due[volume], hall.ofVessel(0, 1));
            Check.due("volume that stays", 3 - volume, hall.ofVessel(0, 0));
        }
    }

    @Says(in = "Terms", text = PART)
    static void aPartThatMovesHasThePartOfTheDrops() {
        int[] due = {0, 2, 4, 7};
        for (int volume = 1; volume <= 3; volume++) {
            Gaugerhall hall = Scenes.sevenInThree();
            hall.move(0, 1, volume);
            Check.due(volume + " of 3 move of 7 drops", due[volume], hall.ofVessel(1, 1));
            Check.due("drops that stay", 7 - due[volume], hall.ofVessel(0, 1));
        }
    }

    @Says(in = "Terms", text = PART)
    static void aPartThatIsSentHasThePartOfTheDrops() {
        int[] due = {0, 2, 4, 7};
        for (int volume = 1; volume <= 3; volume++) {
            Gaugerhall hall = Scenes.sevenInThree();
            hall.ship(0, 2, volume, 1);
            Check.due(volume + " of 3 are sent of 7 drops", due[volume], hall.ofMovement(0, 2));
            Check.due("drops that stay", 7 - due[volume], hall.ofVessel(0, 1));
        }
    }

    @Says(in = "Terms", text = PART)
    static void aPartThatLeavesBondHasThePartOfTheDrops() {
        int[] due = {0, 2, 4, 7};
        for (int volume = 1; volume <= 3; volume++) {
            Gaugerhall hall = Scenes.sevenInThree();
            hall.release(0, volume);
            Check.due(volume + " of 3 leave of 7 drops", due[volume], hall.ledger(3));
            Check.due("drops that stay", 7 - due[volume], hall.ofVessel(0, 1));
        }
    }

    @Says(in = "Terms", text = PART)
    static void aPartThatIsDenaturedHasThePartOfTheDrops() {
        int[] due = {0, 2, 4, 7};
        for (int volume = 1; volume <= 3; volume++) {
            Gaugerhall hall = Scenes.sevenInThree();
            hall.permit(7);
            Check.due(volume + " of 3 are denatured of 7 drops", due[volume], hall.denature(0, volume));
            Check.due("drops that stay", 7 - due[volume], hall.ofVessel(0, 1));
        }
    }

    @Says(in = "Terms", text = "that is the drops times that part, divided by the volume.")
    static void dropsTimesPartDoNotWrapAround() {
        Gaugerhall hall = Scenes.holding(9999, 960);
        hall.move(0, 1, 9998);
        Check.due("all but 1 of a full vessel", 9998 * 960, hall.ofVessel(1, 1));
        Check.due("the last volume", 960, hall.ofVessel(0, 1));
        Gaugerhall sent = Scenes.holding(9999, 960);
        sent.guarantee(9999999);
        sent.ship(0, 2, 9999, 60);
        sent.arrive(0, 9998);
        Check.due("all but 1 of a full vessel, arrived", 9998 * 960, sent.ofVessel(2, 1));
    }

    // ---- room

    @Says(in = "Terms", text = ROOM)
    static void roomForWhatComesOfAStill() {
        Check.Scene scene = () -> Scenes.nearlyFull(100, 40, 0);
        Gaugerhall full = Check.taken("just so much", scene, x -> x.run(0, 60, 1, 60, 1));
        Check.due("volume", 100, full.ofVessel(0, 0));
        Check.due("room", 0, full.ofVessel(0, 4));
        Check.refused("1 more", Check.STATE, scene, x -> x.run(0, 61, 1, 61, 1));
        Check.refused("the most", Check.STATE, scene, x -> x.run(0, 9999, 1, 9999, 1));
    }

    @Says(in = "Terms", text = ROOM)
    static void roomInAnEmptyVesselAndInAFullOne() {
        Check.Scene empty = () -> Scenes.nearlyFull(100, 0, 0);
        Check.due("its capacity", 100, Check.taken("its capacity", empty, x -> x.run(0, 100, 1, 100, 1)).ofVessel(0, 0));
        Check.refused("1 more", Check.STATE, empty, x -> x.run(0, 101, 1, 101, 1));
        Check.Scene full = () -> Scenes.nearlyFull(100, 100, 1);
        Check.refused("run of 1 into a full one", Check.STATE, full, x -> x.run(0, 1, 1, 1, 1));
        Check.refused("move of 1 into a full one", Check.STATE, full, x -> x.move(1, 0, 1));
    }

    @Says(in = "Terms", text = ROOM)
    static void roomForWhatMoves() {
        Check.Scene scene = () -> Scenes.nearlyFull(100, 40, 200);
        Gaugerhall full = Check.taken("just so much", scene, x -> x.move(1, 0, 60));
        Check.due("room", 0, full.ofVessel(0, 4));
        Check.refused("1 more", Check.STATE, scene, x -> x.move(1, 0, 61));
        Check.refused("all", Check.STATE, scene, x -> x.move(1, 0, 200));
    }

    @Says(in = "Terms", text = ROOM)
    static void roomForWhatArrives() {
        Check.Scene scene = () -> {
            Gaugerhall hall = Scenes.nearlyFull(100, 40, 99);
            hall.ship(2, 0, 99, 9);
            return hall;
        };
        Gaugerhall full = Check.taken("just so much", scene, x -> x.arrive(0, 60));
        Check.due("room", 0, full.ofVessel(0, 4));
        Check.refused("1 more", Check.STATE, scene, x -> x.arrive(0, 61));
        Check.refused("all", Check.STATE, scene, x -> x.arrive(0, 99));
    }

    @Says(in = "Terms", text = "ahead of shrinking.")
    static void roomIsTheSameHoweverMuchWouldShrink() {
        Check.Scene scene = () -> Scenes.nearlyFull(200, 100, 0);
        Gaugerhall full = Check.taken("100 to 100", scene, x -> x.run(0, 9999, 300, 100, 901));
        Check.due("100 and 100, 900 apart", 200 - 9, full.ofVessel(0, 0));
        Check.due("room behind shrinking", 9, full.ofVessel(0, 4));
        Check.refused("101, of which 9 would shrink", Check.STATE, scene, x -> x.run(0, 9999, 300, 101, 901));
        Gaugerhall again = Check.taken("9 to 191", () -> full, x -> x.run(0, 9999, 300, 9, 451));
        Check.due("full", 0, again.ofVessel(0, 4));
    }

    // ---- shrinking

    @Says(in = "Terms", text = SHRINKS)
    static void shrinksByTheLesserTimesTheDifference() {
        int[][] products = {{99, 101, 0}, {33, 303, 0}, {11, 909, 0}, {100, 100, 1}, {20, 500, 1}, {40, 250, 1},
            {98, 204, 1}, {57, 350, 1}, {40, 500, 2}, {50, 400, 2}, {1, 960, 0}, {4999, 960, 479}};
        for (int[] p : products) {
            String both = p[0] + " times " + p[1];
            Check.due(both, 2 * p[0] - p[2], Scenes.mixed(p[0], 0, p[0], p[1]).ofVessel(0, 0));
            Check.due(both + ", the stronger one being there", 2 * p[0] - p[2], Scenes.mixed(p[0], p[1], p[0], 0).ofVessel(0, 0));
        }
    }

    @Says(in = "Terms", text = SHRINKS)
    static void theLesserOneCountsWhicheverCame() {
        Check.due("100 come to 5000", 5100 - 1, Scenes.mixed(5000, 0, 100, 100).ofVessel(0, 0));
        Check.due("5000 come to 100", 5100 - 1, Scenes.mixed(100, 0, 5000, 100).ofVessel(0, 0));
        Check.due("99 come to 5000", 5099, Scenes.mixed(5000, 0, 99, 101).ofVessel(0, 0));
        Check.due("5000 come to 99", 5099, Scenes.mixed(99, 0, 5000, 101).ofVessel(0, 0));
        Check.due("100 come to 101", 201 - 1, Scenes.mixed(101, 0, 100, 199).ofVessel(0, 0));
        Check.due("101 come to 100", 201 - 1, Scenes.mixed(100, 0, 101, 199).ofVessel(0, 0));
    }

    @Says(in = "Terms", text = "When some volume comes to a vessel that is not empty, both shrink")
    static void nothingShrinksInAnEmptyVessel() {
        Gaugerhall hall = Scenes.holding(9999, 960);
        Check.due("all comes to an empty one", 9999, hall.move(0, 1, 9999));
        Gaugerhall waterThere = Scenes.mixed(100, 0, 100, 100);
        Check.due("one that holds no drops is not empty", 199, waterThere.ofVessel(0, 0));
        Gaugerhall waterComes = Scenes.mixed(100, 100, 100, 0);
        Check.due("what comes without drops makes it shrink", 199, waterComes.ofVessel(0, 0));
    }

    @Says(in = "Terms", text = "When some volume comes to a vessel that is not empty, both shrink")
    static void allThatComesMakesItShrink() {
        Gaugerhall still = Scenes.holding(100, 0);
        still.run(0, 9999, 300, 100, 100);
        Check.due("of a still", 199, still.ofVessel(0, 0));
        Gaugerhall arrived = Scenes.holding(100, 100);
        arrived.dip(2, 100, 0);
        arrived.guarantee(100);
        arrived.ship(0, 2, 100, 1);
        arrived.arrive(0, 100);
        Check.due("of a movement", 199, arrived.ofVessel(2, 0));
        Gaugerhall nothing = Scenes.holding(100, 100);
        nothing.dip(2, 100, 0);
        nothing.guarantee(100);
        nothing.ship(0, 2, 100, 1);
        nothing.arrive(0, 0);
        Check.due("no volume that arrives", 100, nothing.ofVessel(2, 0));
    }

    @Says(in = "Terms", text = "no drop is lost by that.")
    static void noDropIsLostByShrinking() {
        Gaugerhall hall = Scenes.mixed(4999, 960, 4999, 0);
        Check.due("volume", 9998 - 479, hall.ofVessel(0, 0));
        Check.due("drops", 4999 * 960, hall.ofVessel(0, 1));
        Check.due("made", 4999 * 960, hall.ledger(0));
        Check.due("EXCUSED", 0, hall.ledger(4));
        Check.due("MISSING", 0, hall.ledger(5));
    }

    // ---- runs

    @Says(in = "Terms", text = "volume times strength are the drops, both times; what came goes to a vessel.")
    static void volumeTimesStrengthAreTheDrops() {
        Gaugerhall hall = Scenes.holding(0, 0);
        Check.due("1300 of a wash of 2000", 500, hall.run(1, 40, 50, 13, 100));
        Check.due("volume", 13, hall.ofVessel(1, 0));
        Check.due("drops", 1300, hall.ofVessel(1, 1));
        Check.due("made", 1300, hall.ledger(0));
        Check.due("nothing came to another", 0, hall.ofVessel(0, 0));
        Check.due("of the greatest wash", 2699730 - 1, Scenes.holding(0, 0).run(0, 9999, 300, 1, 1));
    }

    @Says(in = "Terms", text = "What came must not be more drops than the wash had.")
    static void notMoreDropsThanTheWashHad() {
        Check.Scene scene = () -> Scenes.holding(5, 5);
        Check.due("as many as the wash had", 91 + 25, Check.taken("91 of 91", scene, x -> x.run(0, 7, 13, 1, 91)).ledger(0));
        Check.taken("91 of 91, by another volume", scene, x -> x.run(0, 7, 13, 13, 7));
        Check.refused("92 of 91", Check.STATE, scene, x -> x.run(0, 7, 13, 1, 92));
        Check.refused("92 of 91, by another volume", Check.STATE, scene, x -> x.run(0, 7, 13, 46, 2));
        Check.taken("1 of 1", scene, x -> x.run(0, 1, 1, 1, 1));
        Check.refused("2 of 1", Check.STATE, scene, x -> x.run(0, 1, 1, 1, 2));
        Check.refused("2 of 1, by another volume", Check.STATE, scene, x -> x.run(0, 1, 1, 2, 1));
        Check.taken("2999700 of 2999700", scene, x -> x.run(1, 9999, 300, 9999, 300));
        Check.refused("3009699 of 2999700", Check.STATE, scene, x -> x.run(1, 9999, 300, 9999, 301));
    }

    @Says(in = "Terms", text = NINE_TENTHS)
    static void theRestUpToNineTenthsIsMissing() {
        int[][] runs = {{100, 91, 0}, {100, 90, 0}, {100, 89, 1}, {100, 1, 89}, {10, 10, 0}, {10, 9, 0}, {10, 8, 1},
            {11, 9, 0}, {11, 8, 1}, {19, 17, 0}, {19, 16, 1}, {1, 1, 0}, {2, 1, 0}, {3, 1, 1}};
        for (int[] r : runs) {
            Gaugerhall hall = Scenes.holding(0, 0);
            Check.due(r[1] + " of " + r[0], r[2], hall.run(0, r[0], 1, r[1], 1));
            Check.due("never made", r[2], hall.ledger(7));
        }
    }

    @Says(in = "Terms", text = "If several apply, the one that the throws clause names first is thrown.")
    static void whichExceptionOfVesselsCalls() {
        Check.Scene ten = TermsOfVesselsEdges::tenVessels;
        Check.refused("vessel, all", Check.INDEX, ten, x -> x.vessel(4, 0));
        Check.refused("vessel, Index and State", Check.INDEX, ten, x -> x.vessel(-1, 1));
        Check.refused("vessel, Argument and State", Check.ARGUMENT, ten, x -> x.vessel(3, 10000));
        Check.Scene busy = Scenes::busy;
        Check.refused("shares, all", Check.INDEX, busy, x -> x.shares(4, 501));
        Check.refused("run, Index and Argument", Check.INDEX, busy, x -> x.run(4, 0, 1, 1, 1));
        Check.refused("run, Index and State", Check.INDEX, busy, x -> x.run(-1, 1, 1, 2, 1));
        Check.refused("run, Argument and State", Check.ARGUMENT, busy, x -> x.run(0, 1, 1, 2, 961));
        Check.refused("run, Argument and no room", Check.ARGUMENT, busy, x -> x.run(0, 0, 300, 9999, 1));
        Check.refused("move, Index and Argument", Check.INDEX, busy, x -> x.move(4, 4, 1));
        Check.refused("move, Index and Argument of the other", Check.INDEX, busy, x -> x.move(0, 4, 0));
        Check.refused("move, Index and State", Check.INDEX, busy, x -> x.move(0, 4, 9999));
        Check.refused("move, Argument and State", Check.ARGUMENT, busy, x -> x.move(0, 0, 9999));
        Check.refused("move, Argument and unlike places", Check.ARGUMENT, busy, x -> x.move(0, 2, 0));
        Check.refused("dip, Index and Argument", Check.INDEX, busy, x -> x.dip(4, -1, 961));
        Check.refused("lose, Index and Argument", Check.INDEX, busy, x -> x.lose(4, 0, true));
        Check.refused("lose, Index and State", Check.INDEX, busy, x -> x.lose(-1, 9999, false));
        Check.refused("lose, Argument from an empty one", Check.ARGUMENT, busy, x -> x.lose(3, 0, true));
    }
}
