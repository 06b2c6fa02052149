/** Calls that answer nothing, so that they can stand where an answer is wanted. */
final class Calls {
    private Calls() {
    }

    static long budget(Gaugerhall hall, int day, int rate, int quota) {
        hall.budget(day, rate, quota);
        return 0;
    }
}
