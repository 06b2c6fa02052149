/** Compares answers with what is due, and counts those that differ. */
final class Check {
    static final Class<? extends RuntimeException> INDEX = IndexOutOfBoundsException.class;
    static final Class<? extends RuntimeException> ARGUMENT = IllegalArgumentException.class;
    static final Class<? extends RuntimeException> STATE = IllegalStateException.class;

    /** Makes an object and tells it something; each call makes a new one in the same state. */
    interface Scene {
        Gaugerhall make();
    }

    interface Call {
        long on(Gaugerhall hall);
    }

    /** A call that has one argument left open. */
    interface CallWith {
        long on(Gaugerhall hall, int argument);
    }

    private static String sentence = "";
    private static int checks = 0;
    private static int wrong = 0;

    private Check() {
    }

    /** Names the sentence that is held from now on. */
    static void about(String text) {
        sentence = text;
    }

    static void due(String call, long want, long got) {
        checks++;
        if (want != got) {
            complain(call + " answered " + got + ", due is " + want);
        }
    }

    static void dueText(String what, String want, String got) {
        checks++;
        if (!want.equals(got)) {
            complain(what + ":\n  got    " + got + "\n  due is " + want);
        }
    }

    /** The call must throw just this exception, and leave all as it was, as far as later calls can tell. */
    static void refused(String call, Class<? extends RuntimeException> due, Scene scene, Call refused) {
        Gaugerhall hall = scene.make();
        String ahead = Trace.of(hall);
        checks++;
        String thrown = thrownBy(hall, refused);
        if (!thrown.equals(due.getName())) {
            complain(call + " threw " + thrown + ", due is " + due.getName());
            return;
        }
        dueText(call + ", refused, changed what is asked", ahead, Trace.of(hall));
        Gaugerhall later = scene.make();
        thrownBy(later, refused);
        dueText(call + ", refused, left", Trace.withFuture(scene.make()), Trace.withFuture(later));
    }

    /** The call must throw just this exception; what it leaves is for the caller to see. */
    static void thrown(String call, Class<? extends RuntimeException> due, Gaugerhall hall, Call refused) {
        dueText(call + " threw", due.getName(), thrownBy(hall, refused));
    }

    /** The call must throw nothing; answers the object that took it. */
    static Gaugerhall taken(String call, Scene scene, Call taken) {
        Gaugerhall hall = scene.make();
        checks++;
        String thrown = thrownBy(hall, taken);
        if (!thrown.equals("nothing")) {
            complain(call + " threw " + thrown + ", due is nothing");
        }
        return hall;
    }

    /** The least and the most are taken; the numbers next to them, and the farthest ones, are refused. */
    static void range(Class<? extends RuntimeException> due, int least, int most, Scene scene, CallWith call) {
        for (int argument : new int[] {least, most}) {
            taken("with " + argument, scene, x -> call.on(x, argument));
        }
        outside(due, least, most, scene, call);
    }

    /** The numbers next to the least and the most, and the farthest ones, are refused. */
    static void outside(Class<? extends RuntimeException> due, int least, int most, Scene scene, CallWith call) {
        for (int argument : new int[] {least - 1, most + 1, Integer.MIN_VALUE, Integer.MAX_VALUE}) {
            refused("with " + argument, due, scene, x -> call.on(x, argument));
        }
    }

    private static String thrownBy(Gaugerhall hall, Call call) {
        try {
            call.on(hall);
            return "nothing";
        } catch (RuntimeException e) {
            return thrower(e);
        }
    }

    /** The exception's name, and where it came from, if the class did not throw it by a throw of its own. */
    static String thrower(RuntimeException e) {
        StackTraceElement[] frames = e.getStackTrace();
        boolean isOwn = frames.length > 0 && frames[0].getClassName().startsWith("Gaugerhall");
        return isOwn ? e.getClass().getName() : e.getClass().getName() + " of " + (frames.length > 0 ? frames[0] : "?");
    }

    static void complain(String text) {
        wrong++;
        StackTraceElement[] frames = new Throwable().getStackTrace();
        StackTraceElement frame = frames[0];
        for (int i = 0; i < frames.length && frame.getClassName().equals("Check"); i++) {
            frame = frames[i];
        }
        String about = sentence.isEmpty() ? "" : sentence + ": ";
        System.out.println(frame.getFileName() + ":" + frame.getLineNumber() + ": " + about + text);
    }

    static void end() {
        System.out.println(checks + " checks, " + wrong + " wrong");
        if (wrong != 0) {
            System.exit(1);
        }
    }
}
