import java.lang.reflect.Method;
import java.lang.reflect.Modifier;
import java.util.Arrays;

/** A call of the face, by its name and numbers, that can be made on any finder. */
final class Call {
    final String name;
    private final int[] numbers;
    private final Method method;

    Call(String name, int... numbers) {
        this.name = name;
        this.numbers = numbers;
        method = find(name, numbers.length);
    }

    private static Method find(String name, int many) {
        for (Method m : KnockFinder.class.getDeclaredMethods()) {
            if (m.getName().equals(name) && Modifier.isPublic(m.getModifiers()) && m.getParameterCount() == many) {
                return m;
            }
        }
        throw new IllegalArgumentException("no call " + name + " of " + many);
    }

    /** The same call with another number at a place. */
    Call with(int place, int number) {
        int[] changed = numbers.clone();
        changed[place] = number;
        return new Call(name, changed);
    }

    long on(KnockFinder x) {
        Object[] arguments = new Object[numbers.length];
        for (int i = 0; i < numbers.length; i++) {
            arguments[i] = numbers[i];
        }
        try {
            return ((Number) method.invoke(x, arguments)).longValue();
        } catch (ReflectiveOperationException e) {
            throw new IllegalStateException(this + " threw " + e.getCause(), e);
        }
    }

    @Override
    public String toString() {
        String all = Arrays.toString(numbers);
        return name + "(" + all.substring(1, all.length() - 1) + ")";
    }
}
