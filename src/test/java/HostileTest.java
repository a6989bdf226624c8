import java.lang.reflect.InvocationTargetException;
import java.lang.reflect.Method;
import java.lang.reflect.Modifier;
import java.util.Arrays;
import java.util.Comparator;
import java.util.NoSuchElementException;
import java.util.Random;

/** Whatever the arguments, and whatever has gone before, no call throws but led, and that only what it may. */
public final class HostileTest {
    private static final int[] NUMBERS = {Integer.MIN_VALUE, -65537, -1, 0, 1, 2, 8, 9, 10, 60, 61, 200, 300, 301, 900,
        999, 65536, 2000000000, Integer.MAX_VALUE};
    private static final String[] TEXTS = {"", Galleries.FIVE, Galleries.THREE, Galleries.SETTLING, Galleries.SPEAKER,
        "gallery figures 9 span 1 stairs 8 shut 100;law times 8 plus 8 first 8;figure a is 0 walks 1;"
            + "figure b is 8 speaks 20;watcher w from 8 to 0;watcher v from 0 to 8;watcher u from 8 to 8"};
    private static final Check CHECK = new Check("HostileTest");

    private HostileTest() {
    }

    public static void main(String[] args) {
        Method[] calls = Arrays.stream(WaxTurns.class.getDeclaredMethods())
            .filter(method -> Modifier.isPublic(method.getModifiers()))
            .sorted(Comparator.comparing(Method::getName)).toArray(Method[]::new);
        Random random = new Random(11);
        for (int run = 0; run < 300; run++) {
            WaxTurns x = new WaxTurns();
            Check.tell(x, TEXTS[run % TEXTS.length]);
            for (int i = 0; i < 450; i++) {
                call(x, calls[random.nextInt(calls.length)], random);
            }
        }
        CHECK.end();
    }

    private static void call(WaxTurns x, Method call, Random random) {
        Class<?>[] types = call.getParameterTypes();
        Object[] arguments = new Object[types.length];
        for (int i = 0; i < types.length; i++) {
            int number = random.nextBoolean() ? NUMBERS[random.nextInt(NUMBERS.length)] : random.nextInt(20);
            arguments[i] = types[i] == boolean.class ? (Object) random.nextBoolean() : (Object) number;
        }
        Throwable thrown = null;
        try {
            call.invoke(x, arguments);
        } catch (InvocationTargetException e) {
            thrown = e.getCause();
        } catch (IllegalAccessException e) {
            thrown = e;
        }
        boolean may = thrown == null || call.getName().equals("led") && thrown instanceof NoSuchElementException;
        CHECK.due(call.getName() + Arrays.toString(arguments) + " throws " + thrown, may, true);
    }
}
