import java.lang.reflect.InvocationTargetException;
import java.lang.reflect.Method;
import java.lang.reflect.Modifier;
import java.util.Arrays;

/** Each method with each combination of the numbers next to 0 and at the ends of int, compared with the Model. */
public final class ExtremesTest {
    private static final int[] NUMBERS = {Integer.MIN_VALUE, -1, 0, 1, 2, 3, Integer.MAX_VALUE};
    private static final int MOST_CALLS = 512;

    private final Checks checks = new Checks("ExtremesTest");
    private Haltingale x;
    private Model model;
    private int calls;

    public static void main(String[] args) throws ReflectiveOperationException {
        ExtremesTest test = new ExtremesTest();
        for (Method method : Haltingale.class.getDeclaredMethods()) {
            if (Modifier.isPublic(method.getModifiers())) {
                Method due = Model.class.getDeclaredMethod(method.getName(), method.getParameterTypes());
                test.callWithAll(method, due);
            }
        }
        test.checks.end();
    }

    private void callWithAll(Method method, Method due) {
        int count = 1;
        for (int i = 0; i < method.getParameterCount(); i++) {
            count *= NUMBERS.length;
        }
        for (int combination = 0; combination < count; combination++) {
            if (combination == 0 || calls >= MOST_CALLS) {
                begin();
            }
            Object[] numbers = new Object[method.getParameterCount()];
            int rest = combination;
            for (int i = 0; i < numbers.length; i++) {
                numbers[i] = NUMBERS[rest % NUMBERS.length];
                rest /= NUMBERS.length;
            }
            String call = method.getName() + Arrays.toString(numbers);
            checks.same(call, outcomeOf(x, method, numbers), outcomeOf(model, due, numbers));
            calls++;
        }
    }

    /** A machine that is DECIDED, one that HANGS, one that goes on and one that is EMPTY, and two TAGS. */
    private void begin() {
        x = new Haltingale();
        model = new Model();
        calls = 0;
        makeMachine(2, new int[][] {{0, 0, 1, 1, 1}, {0, 1, 1, -1, 1}, {1, 0, 1, -1, 0}, {1, 1, 1, 1, 2}});
        makeMachine(3, new int[][] {{0, 0, 1, 1, 1}, {2, 1, 0, -1, 3}});
        makeMachine(2, new int[][] {{0, 0, 0, -1, 0}, {1, 1, 1, 1, 2}});
        makeMachine(4, new int[][] {});
        x.prove(0, 0, 6, 0);
        model.prove(0, 0, 6, 0);
        x.tag(2, 11, 6);
        model.tag(2, 11, 6);
        x.tag(1, 2, 3);
        model.tag(1, 2, 3);
        calls += 3;
    }

    private void makeMachine(int states, int[][] cells) {
        int machine = x.machine(states);
        model.machine(states);
        for (int[] c : cells) {
            x.tell(machine, c[0], c[1], c[2], c[3], c[4]);
            model.tell(machine, c[0], c[1], c[2], c[3], c[4]);
        }
        calls += 1 + cells.length;
    }

    private static String outcomeOf(Object object, Method method, Object[] numbers) {
        try {
            return String.valueOf(method.invoke(object, numbers));
        } catch (InvocationTargetException e) {
            return "throws." + e.getCause().getClass().getSimpleName();
        } catch (IllegalAccessException e) {
            return "no access";
        }
    }
}
