import java.lang.reflect.InvocationTargetException;
import java.lang.reflect.Method;
import java.util.Arrays;
import java.util.HashMap;
import java.util.Map;

/** One call of the document's face, to be asked of a GrantKernel or of the Model. */
record Call(String name, int... numbers) {
    private static final Map<String, Method> METHODS = new HashMap<>();

    /** The number it answers (true counts 1), or throws. and the exception's name. */
    String askedOf(Object target) {
        try {
            Object answer = method(target.getClass(), name).invoke(target, arguments());
            return answer instanceof Boolean yes ? (yes ? "1" : "0") : answer.toString();
        } catch (InvocationTargetException e) {
            return "throws." + e.getCause().getClass().getSimpleName();
        } catch (IllegalAccessException e) {
            throw new IllegalStateException(e);
        }
    }

    private static Method method(Class<?> of, String name) {
        return METHODS.computeIfAbsent(of.getName() + "." + name, key ->
            Arrays.stream(of.getDeclaredMethods()).filter(m -> m.getName().equals(name)).findFirst().orElseThrow());
    }

    private Object[] arguments() {
        Object[] all = Arrays.stream(numbers).boxed().toArray();
        if (name.equals("press")) {
            all[1] = numbers[1] != 0;
        }
        return all;
    }

    @Override
    public String toString() {
        String told = Arrays.toString(numbers);
        return name + "(" + told.substring(1, told.length() - 1) + ")";
    }
}
