import java.lang.reflect.InvocationTargetException;
import java.lang.reflect.Method;

/** An object asked by the calls' names; its calls are counted, for nothing is promised of more than 512. */
final class Asked {
    static final int MOST_CALLS = 512;
    /** What no call answers: one that threw, or is not in the face. */
    static final int THREW = -99;

    private final BoundaryRules x = new BoundaryRules();
    private int calls;

    int ask(String call, int... numbers) {
        calls++;
        Class<?>[] types = new Class<?>[numbers.length];
        Object[] values = new Object[numbers.length];
        for (int i = 0; i < numbers.length; i++) {
            types[i] = int.class;
            values[i] = numbers[i];
        }
        try {
            Method m = BoundaryRules.class.getMethod(call, types);
            return (Integer) m.invoke(x, values);
        } catch (InvocationTargetException e) {
            System.out.println(call + " threw " + e.getCause());
            return THREW;
        } catch (NoSuchMethodException | IllegalAccessException e) {
            System.out.println(call + " is not in the face");
            return THREW;
        }
    }

    Asked lay(String text) {
        ask("wipe");
        for (char sign : text.toCharArray()) ask("write", sign);
        ask("lay");
        return this;
    }

    int calls() {
        return calls;
    }
}
