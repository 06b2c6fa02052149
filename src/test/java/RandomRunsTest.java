import java.util.ArrayList;
import java.util.List;
import java.util.Random;

/**
 * Long runs of calls with arguments in and out of range. Nothing but what the document names is thrown, each drop made
 * has a place, and the calls that were not refused, told again to a new object, bring it to the same state.
 */
public final class RandomRunsTest {
    private static final int RUNS = 1500;
    private static final int CALLS = 260;

    public static void main(String[] args) {
        for (int seed = 0; seed < RUNS; seed++) {
            new RandomRunsTest(seed).run();
        }
        Check.end();
    }

    private final int seed;
    private final Random random;
    private final Gaugerhall hall = new Gaugerhall();
    private final List<int[]> told = new ArrayList<>();

    private RandomRunsTest(int seed) {
        this.seed = seed;
        this.random = new Random(seed);
    }

    private void run() {
        for (int i = 0; i < CALLS; i++) {
            int[] call = i < 6 ? new int[] {0, random.nextInt(4), 1 + random.nextInt(9999), 0} : anyCall();
            if (isTold(call)) {
                told.add(call);
            }
        }
        int placed = 0;
        for (int what = 1; what < 7; what++) {
            placed += hall.ledger(what);
        }
        Check.due("run " + seed + ": drops that have a place", hall.ledger(0), placed);
        Gaugerhall anew = new Gaugerhall();
        for (int[] call : told) {
            Check.due("run " + seed + ": call " + call[0] + " again", call[call.length - 1], tell(anew, call));
        }
        Check.dueText("run " + seed + ", told anew", Trace.of(anew), Trace.of(hall));
        for (int i = 0; i < 6; i++) {
            Check.due("run " + seed + ": dropsAnew(" + i + ")", anew.ofVessel(i, 1), hall.dropsAnew(i));
        }
    }

    /** Keeps the answer behind the arguments. */
    private boolean isTold(int[] call) {
        try {
            call[call.length - 1] = (int) tell(hall, call);
            return true;
        } catch (IndexOutOfBoundsException | IllegalArgumentException | IllegalStateException e) {
            String name = Check.thrower(e);
            boolean isNamed = name.equals(Check.INDEX.getName()) || name.equals(Check.ARGUMENT.getName())
                || name.equals(Check.STATE.getName());
            Check.due("run " + seed + ": call " + call[0] + " threw " + name, 1, isNamed ? 1 : 0);
            return false;
        }
    }

    private int[] anyCall() {
        int vessel = number(6);
        int other = number(6);
        switch (random.nextInt(18)) {
            case 0: return new int[] {1, number(4), number(501), 0};
            case 1:
            case 2:
            case 3: return new int[] {2, vessel, number(10000), number(301), number(random.nextBoolean() ? 100 : 3000), number(961), 0};
            case 4:
            case 5: return new int[] {3, vessel, other, number(500), 0};
            case 6: return new int[] {4, vessel, number(2000), number(961), 0};
            case 7: return new int[] {5, vessel, number(100), random.nextInt(2), 0};
            case 8:
            case 9: return new int[] {6, vessel, number(random.nextBoolean() ? 50 : 1500), 0};
            case 10: return new int[] {7, number(99999), 0};
            case 11: return new int[] {8, vessel, number(100), 0};
            case 12: return new int[] {9, number(20000), 0};
            case 13: return new int[] {10, number(4000), 0};
            case 14: return new int[] {11, hall.day() + number(60), number(100), number(2000000), 0};
            case 15: return new int[] {12, number(100000), 0};
            case 16: return random.nextBoolean() ? new int[] {13, vessel, other, number(600), number(20), 0}
                : new int[] {14, number(31), number(600), 0};
            default: return new int[] {15, number(random.nextInt(4) == 0 ? 61 : 6), 0};
        }
    }

    /** Mostly from 0 to below the bound, sometimes just or far outside. */
    private int number(int bound) {
        switch (random.nextInt(60)) {
            case 0: return -1;
            case 1: return bound;
            case 2: return Integer.MIN_VALUE;
            case 3: return Integer.MAX_VALUE;
            default: return random.nextInt(bound);
        }
    }

    private static long tell(Gaugerhall x, int[] c) {
        switch (c[0]) {
            case 0: return x.vessel(c[1], c[2]);
            case 1: return x.shares(c[1], c[2]);
            case 2: return x.run(c[1], c[2], c[3], c[4], c[5]);
            case 3: return x.move(c[1], c[2], c[3]);
            case 4: return x.dip(c[1], c[2], c[3]);
            case 5: return x.lose(c[1], c[2], c[3] == 1);
            case 6: return x.release(c[1], c[2]);
            case 7: return x.permit(c[1]);
            case 8: return x.denature(c[1], c[2]);
            case 9: return x.export(c[1]);
            case 10: return x.pay(c[1]);
            case 11:
                x.budget(c[1], c[2], c[3]);
                return 0;
            case 12: return x.guarantee(c[1]);
            case 13: return x.ship(c[1], c[2], c[3], c[4]);
            case 14: return x.arrive(c[1], c[2]);
            default: return x.pass(c[1]);
        }
    }
}
