import java.lang.reflect.Constructor;
import java.lang.reflect.Field;
import java.lang.reflect.Method;
import java.lang.reflect.Modifier;
import java.util.ArrayList;
import java.util.Arrays;
import java.util.List;

/** The public face, the constants, and that no call ever throws, whatever its arguments. */
public final class FaceTest {
    private static final String[] METHODS = {
        "int floor(int,int)", "int type(long,int)", "int rule(int)", "int ant(int,int,int,int)", "int less()",
        "int paint(int,int,int)", "int colour(int,int)", "int told(int,int)", "int run(int)", "int time()",
        "int meeting(int,int)", "int visits(int,int)", "int count(int)", "int bounds(int)", "long digest()",
        "int mark()", "int road(int)", "int differ()", "int like(int,int,int)", "int sheet(int,int,int)",
        "int drop(int)", "int item(int,int,int,int)", "int lay(int,int,int,int,int,int)", "int copy(int,int,int,int,int)"};

    public static void main(String[] args) throws Exception {
        constants();
        methods();
        noCallThrows();
        Due.end();
    }

    private static void constants() throws Exception {
        String[] names = {"BAD", "NOT", "FULL", "EDGE", "NULL", "CAST", "INDEX", "SIZE"};
        int[] values = {-1, -2, -3, -4, -11, -12, -13, -14};
        for (int i = 0; i < names.length; i++) {
            Field f = AntFloor.class.getField(names[i]);
            Due.is(names[i], f.getInt(null), values[i]);
            Due.isTrue(names[i] + " is public static final int",
                f.getModifiers() == (Modifier.PUBLIC | Modifier.STATIC | Modifier.FINAL) && f.getType() == int.class);
        }
        int open = 0;
        for (Field f : AntFloor.class.getDeclaredFields()) {
            open += Modifier.isPrivate(f.getModifiers()) ? 0 : 1;
        }
        Due.is("fields that are not private", open, names.length);
    }

    private static void methods() {
        int modifiers = AntFloor.class.getModifiers();
        Due.isTrue("public and final", Modifier.isPublic(modifiers) && Modifier.isFinal(modifiers));
        Due.isTrue("it is nothing but itself",
            AntFloor.class.getSuperclass() == Object.class && AntFloor.class.getInterfaces().length == 0);
        for (Class<?> inside : AntFloor.class.getDeclaredClasses()) {
            Due.isTrue(inside.getName() + " is private and static",
                Modifier.isPrivate(inside.getModifiers()) && Modifier.isStatic(inside.getModifiers()));
        }
        List<String> open = new ArrayList<>();
        List<String> hidden = new ArrayList<>();
        for (Method m : AntFloor.class.getDeclaredMethods()) {
            if (Modifier.isPublic(m.getModifiers())) {
                open.add(written(m));
                Due.isTrue(m.getName() + " is of an object, and declares no exception",
                    !Modifier.isStatic(m.getModifiers()) && m.getExceptionTypes().length == 0);
            } else {
                Due.isTrue(m.getName() + " is private", Modifier.isPrivate(m.getModifiers()) || m.isSynthetic());
                hidden.add(m.getName());
            }
        }
        for (String due : METHODS) {
            Due.isTrue("there is " + due, open.contains(due));
            Due.isTrue("no private " + due, !hidden.contains(due.substring(due.indexOf(' ') + 1, due.indexOf('('))));
        }
        Due.is("public methods", open.size(), METHODS.length);
        Constructor<?>[] made = AntFloor.class.getDeclaredConstructors();
        Due.isTrue("one public constructor of nothing",
            made.length == 1 && made[0].getParameterCount() == 0 && Modifier.isPublic(made[0].getModifiers()));
    }

    private static String written(Method m) {
        StringBuilder text = new StringBuilder(m.getReturnType() + " " + m.getName() + "(");
        for (Class<?> p : m.getParameterTypes()) {
            text.append(text.charAt(text.length() - 1) == '(' ? "" : ",").append(p);
        }
        return text.append(")").toString();
    }

    private static void noCallThrows() throws Exception {
        int[] odd = {Integer.MIN_VALUE, Integer.MAX_VALUE, -2000, -121, -120, -1, 0, 1, 2, 3, 4, 5, 6, 11, 12, 59, 60, 61, 119, 120, 300, 2000};
        Dice dice = new Dice(7);
        List<Method> calls = new ArrayList<>();
        for (Method m : AntFloor.class.getDeclaredMethods()) {
            if (Modifier.isPublic(m.getModifiers())) {
                calls.add(m);
            }
        }
        // The order of reflection is free, the order of the calls must not be.
        calls.sort((a, b) -> a.getName().compareTo(b.getName()));
        for (int run = 0; run < 40; run++) {
            AntFloor x = new AntFloor();
            for (int i = 0; i < 512; i++) {
                Method m = calls.get(dice.from(0, calls.size() - 1));
                Object[] with = new Object[m.getParameterCount()];
                for (int k = 0; k < with.length; k++) {
                    int v = dice.once(2) ? dice.from(0, 3) : dice.of(odd);
                    with[k] = m.getParameterTypes()[k] == long.class ? (Object) dice.next() : (Object) v;
                }
                try {
                    m.invoke(x, with);
                } catch (java.lang.reflect.InvocationTargetException e) {
                    Due.isTrue(m.getName() + Arrays.toString(with) + " threw " + e.getCause(), false);
                }
            }
        }
    }
}
