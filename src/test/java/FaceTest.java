import java.lang.reflect.Constructor;
import java.lang.reflect.Field;
import java.lang.reflect.Method;
import java.lang.reflect.Modifier;
import java.util.ArrayList;
import java.util.Arrays;
import java.util.Comparator;
import java.util.List;
import java.util.Random;
import java.util.Set;
import java.util.TreeSet;

/** The compiled class shows the document's face and no more, and no call ever throws. */
public final class FaceTest {
    private static final Checks CHECKS = new Checks();

    private static final List<String> METHODS = List.of("cloth 2", "rule 2", "fold 4", "open 1", "about 2", "stack 3",
        "place 2", "high 2", "board 3", "off 1", "reach 2", "bath 3", "discharge 3", "dry 1", "depth 2", "mirrored 2",
        "period 2", "steps 2", "alike 3", "wish 2", "dark 2", "way 2", "nearly 2", "told 2", "count 1");
    private static final List<String> CONSTANTS =
        List.of("NONE", "FULL", "STATE", "HELD", "THICK", "TEARS", "NEVER", "NOT");
    private static final int[] WILD = {Integer.MIN_VALUE, Integer.MIN_VALUE + 1, -289, -24, -12, -1, 0, 1, 2, 3, 4, 5, 6,
        7, 9, 11, 12, 13, 15, 16, 23, 24, 25, 26, 49, 50, 99, 100, 143, 144, 287, 288, 575, 576, Integer.MAX_VALUE};

    private static void theFace() throws IllegalAccessException {
        int shape = FoldDye.class.getModifiers();
        CHECKS.that("the class is public and final", Modifier.isPublic(shape) && Modifier.isFinal(shape));
        Set<String> methods = new TreeSet<>();
        Set<String> names = new TreeSet<>();
        for (Method m : FoldDye.class.getDeclaredMethods()) {
            if (!Modifier.isPrivate(m.getModifiers())) {
                methods.add(m.getName() + " " + m.getParameterCount());
                names.add(m.getName());
                CHECKS.that(m + " is public", Modifier.isPublic(m.getModifiers()) && !Modifier.isStatic(m.getModifiers()));
                CHECKS.that(m + " answers an int", m.getReturnType() == int.class);
                for (Class<?> type : m.getParameterTypes()) {
                    CHECKS.that(m + " takes ints", type == int.class);
                }
            }
        }
        CHECKS.that("the methods are the document's", methods.equals(new TreeSet<>(METHODS)));
        for (Class<?> c : allClasses()) {
            for (Method m : c.getDeclaredMethods()) {
                boolean shared = c != FoldDye.class || Modifier.isPrivate(m.getModifiers());
                CHECKS.that(m + " has a name of its own", !shared || !names.contains(m.getName()));
            }
        }
        List<String> constants = new ArrayList<>();
        for (Field f : FoldDye.class.getDeclaredFields()) {
            if (!Modifier.isPrivate(f.getModifiers())) {
                constants.add(f.getName());
                CHECKS.equal(f.getName(), f.getInt(null), -constants.size());
            }
        }
        CHECKS.that("the constants are the document's", constants.equals(CONSTANTS));
        Constructor<?>[] made = FoldDye.class.getDeclaredConstructors();
        CHECKS.that("one public constructor without parameters",
            made.length == 1 && Modifier.isPublic(made[0].getModifiers()) && made[0].getParameterCount() == 0);
    }

    private static List<Class<?>> allClasses() {
        List<Class<?>> all = new ArrayList<>();
        all.add(FoldDye.class);
        all.addAll(Arrays.asList(FoldDye.class.getDeclaredClasses()));
        return all;
    }

    private static void noCallThrows() throws ReflectiveOperationException {
        Method[] all = FoldDye.class.getDeclaredMethods();
        List<Method> calls = new ArrayList<>();
        for (Method m : all) {
            if (Modifier.isPublic(m.getModifiers())) {
                calls.add(m);
            }
        }
        calls.sort(Comparator.comparing(Method::getName));
        Random dice = new Random(11);
        for (int run = 0; run < 300; run++) {
            FoldDye x = new FoldDye();
            for (int i = 0; i < 512; i++) {
                Method m = calls.get(dice.nextInt(calls.size()));
                Object[] numbers = new Object[m.getParameterCount()];
                for (int n = 0; n < numbers.length; n++) {
                    numbers[n] = dice.nextInt(3) == 0 ? WILD[dice.nextInt(WILD.length)] : dice.nextInt(6);
                }
                int answer = (Integer) m.invoke(x, numbers);
                CHECKS.that(m.getName() + Arrays.toString(numbers) + " answered " + answer, answer >= FoldDye.NOT);
            }
        }
    }

    public static void main(String[] args) throws Exception {
        theFace();
        noCallThrows();
        CHECKS.end();
    }
}
