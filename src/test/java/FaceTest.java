import java.lang.reflect.Constructor;
import java.lang.reflect.Field;
import java.lang.reflect.Method;
import java.lang.reflect.Modifier;
import java.util.Arrays;
import java.util.TreeSet;

/** The public face, with what each call says it throws, and nothing besides. */
public final class FaceTest {
    private static final String I = "IndexOutOfBoundsException", A = "IllegalArgumentException", S = "IllegalStateException";

    public static void main(String[] args) {
        constants();
        classAndConstructor();
        methods();
        nothingElseIsVisible();
        Check.end();
    }

    private static void constants() {
        Check.due("NONE", -1, Gaugerhall.NONE);
        Check.due("MOVES", 0, Gaugerhall.MOVES);
        Check.due("ARRIVED", 1, Gaugerhall.ARRIVED);
        Check.due("LOST", 2, Gaugerhall.LOST);
    }

    private static void classAndConstructor() {
        Check.dueText("the class", "public final", Modifier.toString(Gaugerhall.class.getModifiers()));
        Constructor<?>[] constructors = Gaugerhall.class.getDeclaredConstructors();
        Check.due("constructors", 1, constructors.length);
        Check.due("parameters of the constructor", 0, constructors[0].getParameterCount());
        Check.due("the constructor is public", 1, Modifier.isPublic(constructors[0].getModifiers()) ? 1 : 0);
    }

    private static void methods() {
        TreeSet<String> due = new TreeSet<>(Arrays.asList(
            "int vessel(int,int) " + I + " " + A + " " + S,
            "int shares(int,int) " + I + " " + A,
            "int run(int,int,int,int,int) " + I + " " + A + " " + S,
            "int move(int,int,int) " + I + " " + A + " " + S,
            "int dip(int,int,int) " + I + " " + A + " " + S,
            "int lose(int,int,boolean) " + I + " " + A + " " + S,
            "int release(int,int) " + I + " " + A + " " + S,
            "int permit(int) " + A,
            "int denature(int,int) " + I + " " + A + " " + S,
            "int export(int) " + A + " " + S,
            "int pay(int) " + A + " " + S,
            "void budget(int,int,int) " + A + " " + S,
            "int guarantee(int) " + A + " " + S,
            "int ship(int,int,int,int) " + I + " " + A + " " + S,
            "int arrive(int,int) " + I + " " + A + " " + S,
            "int pass(int) " + A + " " + S,
            "int day()",
            "int ofVessel(int,int) " + I,
            "int dropsAnew(int) " + I,
            "int ofMovement(int,int) " + I,
            "int ledger(int) " + A,
            "int duty(int) " + A));
        TreeSet<String> got = new TreeSet<>();
        for (Method method : Gaugerhall.class.getDeclaredMethods()) {
            if (Modifier.isPublic(method.getModifiers())) {
                got.add(signature(method));
            }
        }
        Check.dueText("the public methods", due.toString(), got.toString());
    }

    private static String signature(Method method) {
        StringBuilder text = new StringBuilder();
        text.append(method.getReturnType().getSimpleName()).append(' ').append(method.getName()).append('(');
        Class<?>[] parameters = method.getParameterTypes();
        for (int i = 0; i < parameters.length; i++) {
            text.append(i == 0 ? "" : ",").append(parameters[i].getSimpleName());
        }
        text.append(')');
        for (Class<?> thrown : method.getExceptionTypes()) {
            text.append(' ').append(thrown.getSimpleName());
        }
        return text.toString();
    }

    private static void nothingElseIsVisible() {
        TreeSet<String> names = new TreeSet<>();
        for (Method method : Gaugerhall.class.getDeclaredMethods()) {
            int modifiers = method.getModifiers();
            if (!Modifier.isPublic(modifiers)) {
                Check.due(method.getName() + " is private", 1, Modifier.isPrivate(modifiers) ? 1 : 0);
            } else {
                names.add(method.getName());
            }
        }
        Check.due("names of public methods, none twice", 22, names.size());
        TreeSet<String> fields = new TreeSet<>();
        for (Field field : Gaugerhall.class.getDeclaredFields()) {
            if (!Modifier.isPrivate(field.getModifiers())) {
                fields.add(field.getName());
            }
        }
        Check.dueText("fields that are not private", "[ARRIVED, LOST, MOVES, NONE]", fields.toString());
    }
}
