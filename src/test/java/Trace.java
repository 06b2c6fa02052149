/** What an object answers, as a text, so that two objects can be compared. */
final class Trace {
    private Trace() {
    }

    /** All that can be asked; at most 200 calls. */
    static String of(Gaugerhall hall) {
        StringBuilder text = new StringBuilder();
        text.append("day ").append(hall.day()).append(" ledger");
        for (int what = 0; what < 8; what++) {
            text.append(' ').append(hall.ledger(what));
        }
        text.append(" duty");
        for (int what = 0; what < 6; what++) {
            text.append(' ').append(hall.duty(what));
        }
        for (int i = 0; hasVessel(hall, i); i++) {
            text.append(" vessel").append(i);
            for (int what = 0; what < 5; what++) {
                text.append(' ').append(hall.ofVessel(i, what));
            }
        }
        for (int i = 0; hasMovement(hall, i); i++) {
            text.append(" movement").append(i);
            for (int what = 0; what < 4; what++) {
                text.append(' ').append(hall.ofMovement(i, what));
            }
        }
        return text.toString();
    }

    /** What is asked now, and what some later calls answer, which show what can't be asked, as lots and a budget. */
    static String withFuture(Gaugerhall hall) {
        StringBuilder text = new StringBuilder(of(hall));
        text.append(" export ").append(exported(hall, hall.ledger(3) / 3)).append(' ').append(exported(hall, hall.ledger(3)));
        for (int days : new int[] {1, 2, 27, 60, 10}) {
            text.append(" pass ").append(passed(hall, days)).append(" rate ").append(hall.duty(1));
        }
        for (int i = 0; hasVessel(hall, i); i++) {
            text.append(" vessel").append(i).append(' ').append(hall.ofVessel(i, 1));
        }
        return text.toString();
    }

    private static boolean hasVessel(Gaugerhall hall, int number) {
        try {
            hall.ofVessel(number, 0);
            return true;
        } catch (IndexOutOfBoundsException e) {
            return false;
        }
    }

    private static boolean hasMovement(Gaugerhall hall, int number) {
        try {
            hall.ofMovement(number, 0);
            return true;
        } catch (IndexOutOfBoundsException e) {
            return false;
        }
    }

    private static int exported(Gaugerhall hall, int drops) {
        return drops < 1 ? 0 : hall.export(drops);
    }

    private static String passed(Gaugerhall hall, int days) {
        try {
            return Integer.toString(hall.pass(days));
        } catch (IllegalStateException e) {
            return "refused";
        }
    }
}
