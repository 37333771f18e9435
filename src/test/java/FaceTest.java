import java.lang.reflect.Constructor;
import java.lang.reflect.Field;
import java.lang.reflect.InvocationTargetException;
import java.lang.reflect.Method;
import java.lang.reflect.Modifier;
import java.util.ArrayList;
import java.util.Arrays;
import java.util.List;
import java.util.NoSuchElementException;
import java.util.Random;
import java.util.TreeSet;

/** The public face by reflection, and that no call throws anything but what is promised, whatever it is given. */
public final class FaceTest {
    private static final String[] FACE = {"int feed(long, long, long)", "int cupboard()", "int ware(int, int)",
        "int shelf(int, int)", "int may(int, int)", "int put(int, int, int)", "int draw(int)", "int carry(int, int, int)",
        "int where(int, int)", "int at(int, int, int)", "int stack(int, int, int)", "int lift(int)", "int cost()",
        "int through(int, int)", "int rows(int)", "int rowOf(int)", "int needed(int)", "int sorted(int, int, int)",
        "int goes(int, int)", "int ask(int)", "boolean clear()", "int asked()", "int best(int, int, int)", "int onTop()",
        "int habit(int)", "long whole(int, int)", "boolean mark(int, boolean)", "int count(int)"};
    private static final int[] ODD = {Integer.MIN_VALUE, Integer.MIN_VALUE + 1, -2, -1, 0, 1, 2, 3, 4, 7, 8, 11, 12, 13, 30,
        31, 32, 33, 63, 64, 999, 1000, 4095, 4096, 1 << 30, Integer.MAX_VALUE - 1, Integer.MAX_VALUE};

    private FaceTest() {
    }

    public static void main(String[] args) throws ReflectiveOperationException {
        members();
        names();
        wildCalls();
        Check.end("FaceTest");
    }

    private static void members() throws ReflectiveOperationException {
        Check.due("final", Modifier.isFinal(BowlShelf.class.getModifiers()), true);
        TreeSet<String> due = new TreeSet<>(Arrays.asList(FACE));
        TreeSet<String> got = new TreeSet<>();
        for (Method m : BowlShelf.class.getDeclaredMethods()) {
            if (!Modifier.isPrivate(m.getModifiers())) {
                String parameters = Arrays.toString(m.getParameterTypes());
                got.add(m.getReturnType() + " " + m.getName() + "(" + parameters.substring(1, parameters.length() - 1) + ")");
                Check.due("public " + m, Modifier.isPublic(m.getModifiers()), true);
            }
        }
        Check.due("the methods " + got, got.equals(due), true);
        Check.due("constructors", BowlShelf.class.getDeclaredConstructors().length, 1);
        for (Constructor<?> c : BowlShelf.class.getDeclaredConstructors()) {
            Check.due("public, without parameters", Modifier.isPublic(c.getModifiers()) && c.getParameterCount() == 0, true);
        }
        for (Field f : BowlShelf.class.getDeclaredFields()) {
            boolean none = f.getName().equals("NONE") && Modifier.isPublic(f.getModifiers());
            Check.due("field " + f, none || Modifier.isPrivate(f.getModifiers()), true);
            Check.due("static and not final: " + f, Modifier.isStatic(f.getModifiers()) && !Modifier.isFinal(f.getModifiers()), false);
        }
        Method whole = BowlShelf.class.getMethod("whole", int.class, int.class);
        Check.due("whole throws", Arrays.equals(whole.getExceptionTypes(), new Class<?>[] {NoSuchElementException.class}), true);
    }

    private static void names() {
        TreeSet<String> face = new TreeSet<>();
        for (String m : FACE) {
            face.add(m.substring(m.indexOf(' ') + 1, m.indexOf('(')));
        }
        List<Class<?>> classes = new ArrayList<>(Arrays.asList(BowlShelf.class.getDeclaredClasses()));
        Check.due("at most twelve classes", classes.size() <= 11, true);
        for (Class<?> c : classes) {
            Check.due("static " + c, Modifier.isStatic(c.getModifiers()), true);
            Check.due("not public " + c, Modifier.isPublic(c.getModifiers()), false);
        }
        classes.add(BowlShelf.class);
        for (Class<?> c : classes) {
            for (Method m : c.getDeclaredMethods()) {
                if (!Modifier.isPublic(m.getModifiers())) {
                    Check.due("a name of the face: " + m, face.contains(m.getName()), false);
                }
                Check.due("parameters " + m, m.getParameterCount() <= 7, true);
            }
        }
    }

    private static void wildCalls() throws ReflectiveOperationException {
        Random random = new Random(3);
        List<Method> methods = new ArrayList<>();
        for (Method m : BowlShelf.class.getDeclaredMethods()) {
            if (Modifier.isPublic(m.getModifiers())) {
                methods.add(m);
            }
        }
        methods.sort((a, b) -> a.getName().compareTo(b.getName()));
        for (int run = 0; run < 60; run++) {
            BowlShelf x = new BowlShelf();
            if (run % 3 != 0) {
                Check.tell(x, crowded(random));
            }
            for (int n = 0; n < 460; n++) {
                Method m = methods.get(random.nextInt(methods.size()));
                if (!m.getName().equals("cupboard") || random.nextInt(20) == 0) {
                    wildCall(x, m, random);
                }
            }
        }
    }

    private static String crowded(Random random) {
        StringBuilder b = new StringBuilder();
        for (int i = 0; i < 12; i++) {
            b.append("bowl ").append((char) ('a' + i)).append(" wide").append(1 + random.nextInt(9)).append("deep")
                .append(1 + random.nextInt(9)).append("weight").append(1 + random.nextInt(9)).append("bears")
                .append(random.nextInt(99)).append("breaks").append(random.nextInt(99)).append(';');
        }
        for (int i = 0; i < 4; i++) {
            b.append("shelf s").append((char) ('a' + i)).append(" height").append(random.nextInt(99) + 1).append("reach")
                .append(random.nextInt(99)).append("room").append(1 + random.nextInt(8)).append(';');
        }
        return b.append("nest inner<outer+").append(random.nextInt(5)).append(';').toString();
    }

    private static void wildCall(BowlShelf x, Method m, Random random) throws ReflectiveOperationException {
        Object[] given = new Object[m.getParameterCount()];
        for (int i = 0; i < given.length; i++) {
            Class<?> type = m.getParameterTypes()[i];
            int odd = random.nextInt(3) == 0 ? ODD[random.nextInt(ODD.length)] : random.nextInt(4) == 0 ? -1 : random.nextInt(12);
            given[i] = type == boolean.class ? (Object) random.nextBoolean() : type == long.class ? (Object) random.nextLong() : (Object) odd;
        }
        String thrown = "";
        try {
            m.invoke(x, given);
        } catch (InvocationTargetException e) {
            thrown = e.getCause().getClass().getSimpleName();
        }
        boolean fine = thrown.isEmpty() || m.getName().equals("whole") && thrown.equals("NoSuchElementException");
        Check.due(m.getName() + Arrays.toString(given) + " throws " + thrown, fine, true);
    }
}
