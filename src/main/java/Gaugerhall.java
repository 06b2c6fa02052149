import java.util.ArrayList;

/** Drink under a land's excise, from the still to the ledger. */
public final class Gaugerhall {
    public static final int NONE = -1;
    public static final int MOVES = 0, ARRIVED = 1, LOST = 2;

    private static final int LAST_DAY = 900;
    private static final int DAYS_OF_YEAR = 100;
    private static final int DAYS_TILL_OWED_GROWS = 30;
    private static final int PLACES = 4;
    private static final int MOST_VESSELS = 10;
    private static final int MOST_RUNS = 60;
    private static final int MOST_DIPS = 60;
    private static final int MOST_RELEASES = 100;
    private static final int MOST_MOVEMENTS = 30;
    private static final int MOST_VOLUME = 9999;
    private static final int MOST_STRENGTH = 960;
    private static final int MOST_WASH_STRENGTH = 300;
    private static final int MOST_SHARE = 500;
    private static final int MOST_RATE = 99;
    private static final int MOST_DAYS_AT_ONCE = 60;
    private static final int MOST_PAYMENT = 999999;
    private static final int MOST_SET = 9999999;

    private final ArrayList<Vessel> vessels;
    private final ArrayList<Movement> movements;
    private final ArrayList<Lot> lots;
    private final int[] shareRates;
    private final Excise excise;
    private final Ledger book;
    private Budget coming;
    private int today;
    private int runs;
    private int dips;
    private int permitted;
    private int guaranteed;

    public Gaugerhall() {
        vessels = new ArrayList<>();
        movements = new ArrayList<>();
        lots = new ArrayList<>();
        shareRates = new int[PLACES];
        excise = new Excise();
        book = new Ledger();
    }

    // ---- vessels, stills

    public int vessel(int place, int capacity)
            throws IndexOutOfBoundsException, IllegalArgumentException, IllegalStateException {
        if (!isPlace(place)) {
            throw new IndexOutOfBoundsException("no such place");
        }
        if (!isWithin(capacity, 1, MOST_VOLUME)) {
            throw new IllegalArgumentException("capacity is out of range");
        }
        if (vessels.size() >= MOST_VESSELS) {
            throw new IllegalStateException("there are 10 vessels");
        }
        vessels.add(new Vessel(place, capacity));
        return vessels.size() - 1;
    }

    public int shares(int place, int rate) throws IndexOutOfBoundsException, IllegalArgumentException {
        if (!isPlace(place)) {
            throw new IndexOutOfBoundsException("no such place");
        }
        if (!isWithin(rate, 0, MOST_SHARE)) {
            throw new IllegalArgumentException("rate is out of range");
        }
        int before = shareRates[place];
        shareRates[place] = rate;
        return before;
    }

    public int run(int vessel, int wash, int washStrength, int volume, int strength)
            throws IndexOutOfBoundsException, IllegalArgumentException, IllegalStateException {
        Vessel to = vesselOf(vessel);
        if (!isWithin(wash, 1, MOST_VOLUME) || !isWithin(washStrength, 1, MOST_WASH_STRENGTH)) {
            throw new IllegalArgumentException("wash or washStrength is out of range");
        }
        if (!isWithin(volume, 1, MOST_VOLUME) || !isWithin(strength, 1, MOST_STRENGTH)) {
            throw new IllegalArgumentException("volume or strength is out of range");
        }
        int washed = wash * washStrength;
        int came = volume * strength;
        if (came > washed || !to.hasRoomFor(volume) || runs >= MOST_RUNS) {
            throw new IllegalStateException("too many drops, no room, or 60 runs");
        }
        runs++;
        to.comeIn(volume, came);
        book.made += came;
        int lacking = Math.max(0, part(washed, 9, 10) - came);
        book.neverMade += lacking;
        excise.chargeWhole(lacking);
        return lacking;
    }

    public int move(int vessel, int other, int volume)
            throws IndexOutOfBoundsException, IllegalArgumentException, IllegalStateException {
        Vessel from = vesselOf(vessel);
        Vessel to = vesselOf(other);
        if (vessel == other || volume < 1) {
            throw new IllegalArgumentException("both are the same, or volume is below 1");
        }
        if (from.place != to.place || !from.has(volume) || !to.hasRoomFor(volume)) {
            throw new IllegalStateException("unlike places, not so much, or no room");
        }
        to.comeIn(volume, from.takeOut(volume));
        return to.volume;
    }

    public int dip(int vessel, int volume, int strength)
            throws IndexOutOfBoundsException, IllegalArgumentException, IllegalStateException {
        Vessel dipped = vesselOf(vessel);
        if (!isWithin(volume, 0, dipped.capacity) || !isWithin(strength, 0, MOST_STRENGTH)) {
            throw new IllegalArgumentException("volume or strength is out of range");
        }
        if (dips >= MOST_DIPS) {
            throw new IllegalStateException("there were 60 dips");
        }
        dips++;
        int had = dipped.drops;
        int more = had - volume * strength;
        dipped.volume = volume;
        dipped.drops = volume * strength;
        if (more < 0) {
            book.made -= more;
        } else if (more > had / 100) {
            miss(more);
        } else {
            book.excused += more;
        }
        return more;
    }

    public int lose(int vessel, int volume, boolean isWitness)
            throws IndexOutOfBoundsException, IllegalArgumentException, IllegalStateException {
        Vessel from = vesselOf(vessel);
        if (volume < 1) {
            throw new IllegalArgumentException("volume is below 1");
        }
        if (!from.has(volume)) {
            throw new IllegalStateException("there is not so much");
        }
        int broken = from.takeOut(volume);
        if (!isWitness) {
            return miss(broken);
        }
        book.excused += broken;
        return 0;
    }

    // ---- duty

    public int release(int vessel, int volume)
            throws IndexOutOfBoundsException, IllegalArgumentException, IllegalStateException {
        Vessel from = vesselOf(vessel);
        if (volume < 1) {
            throw new IllegalArgumentException("volume is below 1");
        }
        if (!from.has(volume) || lots.size() >= MOST_RELEASES) {
            throw new IllegalStateException("there is not so much, or there were 100");
        }
        if (coming != null && from.dropsOf(volume) > coming.quota) {
            throw new IllegalStateException("the quota does not allow it");
        }
        int leaving = from.takeOut(volume);
        if (coming != null) {
            coming.quota -= leaving;
        }
        int arisen = excise.chargeLeaving(leaving);
        lots.add(new Lot(leaving, arisen));
        return arisen;
    }

    public int permit(int drops) throws IllegalArgumentException {
        if (!isWithin(drops, 0, MOST_SET)) {
            throw new IllegalArgumentException("drops is out of range");
        }
        int before = permitted;
        permitted = drops;
        return before;
    }

    public int denature(int vessel, int volume)
            throws IndexOutOfBoundsException, IllegalArgumentException, IllegalStateException {
        Vessel from = vesselOf(vessel);
        if (volume < 1) {
            throw new IllegalArgumentException("volume is below 1");
        }
        if (!from.has(volume) || from.dropsOf(volume) > permitted) {
            throw new IllegalStateException("there is not so much, or the permit does not allow it");
        }
        int denatured = from.takeOut(volume);
        permitted -= denatured;
        book.excused += denatured;
        return denatured;
    }

    public int export(int drops) throws IllegalArgumentException, IllegalStateException {
        if (drops < 1) {
            throw new IllegalArgumentException("drops is below 1");
        }
        if (drops > dropsInLots()) {
            throw new IllegalStateException("the lots do not have so many");
        }
        int left = drops;
        int drawnBack = 0;
        for (int i = 0; i < lots.size() && left > 0; i++) {
            Lot lot = lots.get(i);
            int taken = Math.min(left, lot.drops);
            drawnBack += lot.drawBack(taken);
            left -= taken;
        }
        excise.owed -= drawnBack;
        book.exported += drops;
        return drawnBack;
    }

    public int pay(int money) throws IllegalArgumentException, IllegalStateException {
        if (!isWithin(money, 1, MOST_PAYMENT)) {
            throw new IllegalArgumentException("money is out of range");
        }
        if (money > excise.owed) {
            throw new IllegalStateException("it is more than what is owed");
        }
        excise.owed -= money;
        return excise.owed;
    }

    public void budget(int day, int rate, int quota) throws IllegalArgumentException, IllegalStateException {
        if (day <= today || day > LAST_DAY) {
            throw new IllegalArgumentException("day is out of range");
        }
        if (!isWithin(rate, 0, MOST_RATE) || !isWithin(quota, 0, MOST_SET)) {
            throw new IllegalArgumentException("rate or quota is out of range");
        }
        if (coming != null) {
            throw new IllegalStateException("one is told that has not come");
        }
        coming = new Budget(day, rate, quota);
    }

    // ---- movements, days

    public int guarantee(int money) throws IllegalArgumentException, IllegalStateException {
        if (!isWithin(money, 0, MOST_SET)) {
            throw new IllegalArgumentException("money is out of range");
        }
        if (money < excise.dutyFor(dropsThatMove())) {
            throw new IllegalStateException("it would be below the duty for all drops that move");
        }
        int before = guaranteed;
        guaranteed = money;
        return before;
    }

    public int ship(int vessel, int other, int volume, int days)
            throws IndexOutOfBoundsException, IllegalArgumentException, IllegalStateException {
        Vessel from = vesselOf(vessel);
        Vessel to = vesselOf(other);
        if (volume < 1 || !isWithin(days, 1, MOST_DAYS_AT_ONCE)) {
            throw new IllegalArgumentException("volume is below 1, or days is out of range");
        }
        if (from.place == to.place || !from.has(volume) || movements.size() >= MOST_MOVEMENTS) {
            throw new IllegalStateException("at one place, not so much, or there are 30");
        }
        if (guaranteed < excise.dutyFor(dropsThatMove() + from.dropsOf(volume))) {
            throw new IllegalStateException("the guarantee is too small");
        }
        movements.add(new Movement(to, volume, from.takeOut(volume), today + days));
        return movements.size() - 1;
    }

    public int arrive(int movement, int volume)
            throws IndexOutOfBoundsException, IllegalArgumentException, IllegalStateException {
        Movement arriving = movementOf(movement);
        if (!isWithin(volume, 0, arriving.volume)) {
            throw new IllegalArgumentException("volume is out of range");
        }
        if (arriving.state != MOVES || !arriving.to.hasRoomFor(volume)) {
            throw new IllegalStateException("it does not move any more, or there is no room");
        }
        int came = part(arriving.drops, volume, arriving.volume);
        arriving.state = ARRIVED;
        arriving.to.comeIn(volume, came);
        int less = arriving.drops - came;
        if (less > arriving.drops / 200) {
            miss(less);
            return less;
        }
        book.excused += less;
        return 0;
    }

    public int pass(int days) throws IllegalArgumentException, IllegalStateException {
        if (!isWithin(days, 1, MOST_DAYS_AT_ONCE)) {
            throw new IllegalArgumentException("days is out of range");
        }
        if (today + days > LAST_DAY) {
            throw new IllegalStateException("it would be above 900");
        }
        for (int i = 0; i < days; i++) {
            beginDay();
        }
        return excise.owed;
    }

    // ---- what is asked

    public int day() {
        return today;
    }

    public int ofVessel(int vessel, int what) throws IndexOutOfBoundsException {
        Vessel asked = vesselOf(vessel);
        switch (what) {
            case 0: return asked.volume;
            case 1: return asked.drops;
            case 2: return part(asked.drops, 1, asked.volume);
            case 3: return asked.place;
            case 4: return asked.capacity - asked.volume;
            default: throw new IndexOutOfBoundsException("what is out of range");
        }
    }

    public int dropsAnew(int vessel) throws IndexOutOfBoundsException {
        // The same calls always give the same drops, so doing them again could find no others.
        return vesselOf(vessel).drops;
    }

    public int ofMovement(int movement, int what) throws IndexOutOfBoundsException {
        Movement asked = movementOf(movement);
        switch (what) {
            case 0: return asked.state;
            case 1: return asked.volume;
            case 2: return asked.drops;
            case 3: return asked.lastDay;
            default: throw new IndexOutOfBoundsException("what is out of range");
        }
    }

    public int ledger(int what) throws IllegalArgumentException {
        switch (what) {
            case 0: return book.made;
            case 1: return dropsInVessels();
            case 2: return dropsThatMove();
            case 3: return dropsInLots();
            case 4: return book.excused;
            case 5: return book.missing;
            case 6: return book.exported;
            case 7: return book.neverMade;
            default: throw new IllegalArgumentException("what is out of range");
        }
    }

    public int duty(int what) throws IllegalArgumentException {
        switch (what) {
            case 0: return excise.owed;
            case 1: return excise.rate;
            case 2: return coming == null ? NONE : coming.quota;
            case 3: return excise.leftForHalf;
            case 4: return permitted;
            case 5: return guaranteed - excise.dutyFor(dropsThatMove());
            default: throw new IllegalArgumentException("what is out of range");
        }
    }

    // ---- inside

    private static boolean isWithin(int number, int least, int most) {
        return number >= least && number <= most;
    }

    /** What falls to a part of a whole; nothing falls to a part of an empty whole. */
    private static int part(int amount, int taken, int whole) {
        return whole < 1 ? 0 : (int) ((long) amount * taken / whole);
    }

    private boolean isPlace(int place) {
        return place >= 0 && place < shareRates.length;
    }

    private Vessel vesselOf(int number) throws IndexOutOfBoundsException {
        if (number < 0 || number >= vessels.size()) {
            throw new IndexOutOfBoundsException("no such vessel");
        }
        return vessels.get(number);
    }

    private Movement movementOf(int number) throws IndexOutOfBoundsException {
        if (number < 0 || number >= movements.size()) {
            throw new IndexOutOfBoundsException("no such movement");
        }
        return movements.get(number);
    }

    private int dropsInVessels() {
        int sum = 0;
        for (int i = 0; i < vessels.size(); i++) {
            sum += vessels.get(i).drops;
        }
        return sum;
    }

    private int dropsThatMove() {
        int sum = 0;
        for (int i = 0; i < movements.size(); i++) {
            Movement movement = movements.get(i);
            sum += movement.state == MOVES ? movement.drops : 0;
        }
        return sum;
    }

    private int dropsInLots() {
        int sum = 0;
        for (int i = 0; i < lots.size(); i++) {
            sum += lots.get(i).drops;
        }
        return sum;
    }

    /** Writes drops as MISSING and answers the duty that arises for them. */
    private int miss(int drops) {
        book.missing += drops;
        return excise.chargeWhole(drops);
    }

    private void beginDay() {
        today++;
        if (today % DAYS_OF_YEAR == 0) {
            excise.beginYear();
        }
        if (coming != null && coming.day == today) {
            excise.rate = coming.rate;
            coming = null;
        }
        loseLateMovements();
        takeShares();
        if (today % DAYS_TILL_OWED_GROWS == 0) {
            excise.growOwed();
        }
    }

    private void loseLateMovements() {
        for (int i = 0; i < movements.size(); i++) {
            Movement movement = movements.get(i);
            if (movement.state == MOVES && today > movement.lastDay) {
                movement.state = LOST;
                miss(movement.drops);
            }
        }
    }

    private void takeShares() {
        for (int i = 0; i < vessels.size(); i++) {
            Vessel vessel = vessels.get(i);
            if (isPlace(vessel.place)) {
                book.excused += vessel.takeShare(shareRates[vessel.place]);
            }
        }
    }

    private static final class Vessel {
        private final int place;
        private final int capacity;
        private int volume;
        private int drops;

        Vessel(int place, int capacity) {
            this.place = place;
            this.capacity = capacity;
        }

        boolean has(int wanted) {
            return wanted <= volume;
        }

        boolean hasRoomFor(int more) {
            return more <= capacity - volume;
        }

        int dropsOf(int taken) {
            return part(drops, taken, volume);
        }

        int takeOut(int taken) {
            int out = dropsOf(taken);
            volume -= taken;
            drops -= out;
            return out;
        }

        void comeIn(int moreVolume, int moreDrops) {
            int difference = Math.abs(part(drops, 1, volume) - part(moreDrops, 1, moreVolume));
            // An empty vessel is the lesser one with volume 0, so that nothing shrinks in it.
            int shrinking = part(Math.min(volume, moreVolume), difference, 10000);
            volume += moreVolume - shrinking;
            drops += moreDrops;
        }

        /** Takes a day's share and answers its drops. */
        int takeShare(int rate) {
            int share = part(drops, rate, 100000);
            drops -= share;
            volume -= part(volume, rate, 100000);
            return share;
        }
    }

    private static final class Movement {
        private final Vessel to;
        private final int volume;
        private final int drops;
        private final int lastDay;
        private int state = MOVES;

        Movement(Vessel to, int volume, int drops, int lastDay) {
            this.to = to;
            this.volume = volume;
            this.drops = drops;
            this.lastDay = lastDay;
        }
    }

    private static final class Lot {
        private int drops;
        private int money;

        Lot(int drops, int money) {
            this.drops = drops;
            this.money = money;
        }

        /** Takes drops out and answers what is owed less for them. */
        int drawBack(int taken) {
            int less = part(money, taken, drops);
            drops -= taken;
            money -= less;
            return less;
        }
    }

    private static final class Budget {
        private final int day;
        private final int rate;
        private int quota;

        Budget(int day, int rate, int quota) {
            this.day = day;
            this.rate = rate;
            this.quota = quota;
        }
    }

    private static final class Excise {
        private static final int DROPS_FOR_HALF = 1000000;

        private int rate = 10;
        private int owed;
        private int leftForHalf = DROPS_FOR_HALF;

        int dutyFor(int drops) {
            return part(drops, rate, 1000);
        }

        int chargeWhole(int drops) {
            int arisen = dutyFor(drops);
            owed += arisen;
            return arisen;
        }

        int chargeLeaving(int drops) {
            int forHalf = Math.min(drops, leftForHalf);
            leftForHalf -= forHalf;
            int arisen = part(forHalf, rate / 2, 1000) + dutyFor(drops - forHalf);
            owed += arisen;
            return arisen;
        }

        void beginYear() {
            leftForHalf = DROPS_FOR_HALF;
        }

        void growOwed() {
            if (owed > 0) {
                owed += owed / 100;
            }
        }
    }

    private static final class Ledger {
        private int made;
        private int excused;
        private int missing;
        private int exported;
        private int neverMade;
    }
}
