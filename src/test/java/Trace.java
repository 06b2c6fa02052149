/** What an object answers, as a text, so that two objects can be compared. */
final class Trace {
    private interface Asked {
        int answer(int what);
    }

    private Trace() {
    }

    /** All that can be asked; at most 200 calls. */
    static String of(Gaugerhall hall) {
        StringBuilder text = new StringBuilder();
        text.append("day ").append(hall.day());
        append(text, " ledger", 8, hall::ledger);
        append(text, " duty", 6, hall::duty);
        for (int i = 0; appendIfThere(text, " vessel" + i, 5, hall::ofVessel, i); i++) {
            text.append(" anew ").append(hall.dropsAnew(i));
        }
        for (int i = 0; appendIfThere(text, " movement" + i, 4, hall::ofMovement, i); i++) {
            text.append(';');
        }
        return text.toString();
    }

    /** What is asked now, and what some later calls answer, which show what can't be asked, as lots and a budget. */
    static String withFuture(Gaugerhall hall) {
        StringBuilder text = new StringBuilder(of(hall));
        text.append(" export ").append(exported(hall, hall.ledger(3) / 3)).append(' ').append(exported(hall, hall.ledger(3)));
        for (int days : new int[] {1, 2, 27, 60, 10}) {
            text.append(" pass ").append(passed(hall, days)).append(" rate ").append(hall.duty(1));
        }
        append(text, " ledger", 8, hall::ledger);
        return text.toString();
    }

    private interface AskedOf {
        int answer(int number, int what);
    }

    private static void append(StringBuilder text, String name, int answers, Asked asked) {
        text.append(name);
        for (int what = 0; what < answers; what++) {
            text.append(' ').append(asked.answer(what));
        }
    }

    private static boolean appendIfThere(StringBuilder text, String name, int answers, AskedOf asked, int number) {
        StringBuilder one = new StringBuilder();
        try {
            append(one, name, answers, what -> asked.answer(number, what));
        } catch (IndexOutOfBoundsException e) {
            return false;
        }
        text.append(one);
        return true;
    }

    private static int exported(Gaugerhall hall, int drops) {
        return drops < 1 ? 0 : hall.export(drops);
    }

    private static String passed(Gaugerhall hall, int days) {
        try {
            return Integer.toString(hall.pass(days));
        } catch (IllegalStateException e) {
            return "refused";
        }
    }
}
