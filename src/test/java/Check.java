/** Compares answers with what is due, and counts those that differ. */
final class Check {
    static final Class<? extends RuntimeException> INDEX = IndexOutOfBoundsException.class;
    static final Class<? extends RuntimeException> ARGUMENT = IllegalArgumentException.class;
    static final Class<? extends RuntimeException> STATE = IllegalStateException.class;

    /** Makes an object and tells it something; each call makes a new one in the same state. */
    interface Scene {
        Gaugerhall make();
    }

    interface Call {
        long on(Gaugerhall hall);
    }

    private static int checks = 0;
    private static int wrong = 0;

    private Check() {
    }

    static void due(String call, long want, long got) {
        checks++;
        if (want != got) {
            complain(call + " answered " + got + ", due is " + want);
        }
    }

    static void dueText(String what, String want, String got) {
        checks++;
        if (!want.equals(got)) {
            complain(what + ":\n  got    " + got + "\n  due is " + want);
        }
    }

    /** The call must throw just this exception, and leave all as it was, as far as later calls can tell. */
    static void refused(String call, Class<? extends RuntimeException> due, Scene scene, Call refused) {
        checks++;
        Gaugerhall hall = scene.make();
        String thrown = "nothing";
        try {
            refused.on(hall);
        } catch (RuntimeException e) {
            thrown = thrower(e);
        }
        if (!thrown.equals(due.getName())) {
            complain(call + " threw " + thrown + ", due is " + due.getName());
            return;
        }
        dueText(call + ", refused, left", Trace.withFuture(scene.make()), Trace.withFuture(hall));
    }

    /** The exception's name, and where it came from, if the class did not throw it by a throw of its own. */
    static String thrower(RuntimeException e) {
        StackTraceElement[] frames = e.getStackTrace();
        boolean isOwn = frames.length > 0 && frames[0].getClassName().startsWith("Gaugerhall");
        return isOwn ? e.getClass().getName() : e.getClass().getName() + " of " + (frames.length > 0 ? frames[0] : "?");
    }

    static void complain(String text) {
        wrong++;
        StackTraceElement[] frames = new Throwable().getStackTrace();
        StackTraceElement frame = frames[0];
        for (int i = 0; i < frames.length && frame.getClassName().equals("Check"); i++) {
            frame = frames[i];
        }
        System.out.println(frame.getFileName() + ":" + frame.getLineNumber() + ": " + text);
    }

    static void end() {
        System.out.println(checks + " checks, " + wrong + " wrong");
        if (wrong != 0) {
            System.exit(1);
        }
    }
}
