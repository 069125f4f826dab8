import java.lang.reflect.Method;
import java.util.ArrayList;
import java.util.Arrays;
import java.util.List;

/** The calls of the face by numbers, of the program and of the model: 0 is type (promise 2), 31 count (33). */
final class Calls {
    static final List<String> NAMES = List.of("type", "wipe", "fault", "person", "shadow", "cloud", "wed", "ends",
            "read", "undo", "judged", "moved", "width", "state", "nobody", "reach", "grows", "leave", "survey",
            "forget", "forged", "unlike", "without", "blame", "lords", "sheet", "lose", "lay", "get", "copy",
            "write", "count");

    private final Object x;
    private final List<Method> methods = new ArrayList<>();

    /** Of an object that answers the calls: a MarriedMap or a Model. */
    Calls(Object x) {
        this.x = x;
        for (String name : NAMES) {
            methods.add(methodOf(MarriedMap.class, name));
        }
        if (!(x instanceof MarriedMap)) {
            methods.replaceAll(m -> sameOf(x.getClass(), m));
        }
    }

    static String tell(int call, int[] a) {
        int number = methodOf(MarriedMap.class, NAMES.get(call)).getParameterCount();
        String arguments = Arrays.toString(Arrays.copyOf(a, number));
        return NAMES.get(call) + "(" + arguments.substring(1, arguments.length() - 1) + ")";
    }

    int answer(int call, int[] a) {
        Method method = methods.get(call);
        Object[] arguments = new Object[method.getParameterCount()];
        for (int i = 0; i < arguments.length; i++) {
            arguments[i] = a[i];
        }
        try {
            return (int) method.invoke(x, arguments);
        } catch (ReflectiveOperationException e) {
            throw new IllegalStateException(tell(call, a), e);
        }
    }

    private static Method methodOf(Class<?> of, String name) {
        for (Method method : of.getMethods()) {
            if (method.getName().equals(name)) {
                return method;
            }
        }
        throw new IllegalStateException("no method " + name);
    }

    private static Method sameOf(Class<?> of, Method method) {
        try {
            return of.getDeclaredMethod(method.getName(), method.getParameterTypes());
        } catch (NoSuchMethodException e) {
            throw new IllegalStateException(e);
        }
    }
}
