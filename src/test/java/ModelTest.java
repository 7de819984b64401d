import java.lang.reflect.InvocationTargetException;
import java.lang.reflect.Method;
import java.lang.reflect.Parameter;
import java.util.ArrayList;
import java.util.Arrays;
import java.util.Comparator;
import java.util.List;

/** All promises: long runs of calls whose answers are those of Model. The runs are the same each time. */
public final class ModelTest {
    private static final int RUNS = 1600;
    // With a digest() after each they are the 512 that the document promises answers for.
    private static final int CALLS = 256;

    private static long seed;
    private static int codes;
    private static int wildness;

    public static void main(String[] args) throws ReflectiveOperationException {
        List<Method> methods = new ArrayList<>();
        for (Method method : Reelrow.class.getDeclaredMethods()) {
            if (java.lang.reflect.Modifier.isPublic(method.getModifiers())) {
                methods.add(method);
            }
        }
        methods.sort(Comparator.comparing(Method::getName));
        for (int run = 0; run < RUNS; run++) {
            run(run, methods);
        }
        System.out.println("model: " + RUNS + " runs of " + CALLS + " calls are as due");
    }

    private static void run(int run, List<Method> methods) throws ReflectiveOperationException {
        seed = run * 7919L + 17;
        codes = run % 3 == 0 ? 1000 : 30;
        wildness = run % 2 == 0 ? 40 : 8;
        Reelrow x = new Reelrow();
        Model model = new Model();
        StringBuilder told = new StringBuilder();
        for (int call = 0; call < CALLS; call++) {
            Method method = pick(methods);
            Object[] values = values(method);
            Object due = answer(model, Model.class.getMethod(method.getName(), method.getParameterTypes()), values);
            Object got = answer(x, method, values);
            told.append(method.getName()).append(Arrays.toString(values)).append(" = ").append(got).append('\n');
            if (!due.equals(got) || x.digest() != model.digest()) {
                System.out.println("model: run " + run + ", digest " + x.digest() + " for " + model.digest());
                System.out.println(told + "due is " + due);
                System.exit(1);
            }
        }
    }

    // Calls that bring cells, cursors and views come more often, so that the others have something to do.
    private static Method pick(List<Method> methods) {
        Method method = methods.get(below(methods.size()));
        boolean isRare = method.getName().equals("wipe") || method.getName().equals("setSize")
                || method.getName().equals("retainAll") || method.getName().equals("removeAll");
        String often = List.of("add", "open", "view", "inner", "go", "go", "viewAdd", "addBy").get(below(8));
        if (below(4) == 0 || isRare && below(3) > 0) {
            for (Method other : methods) {
                method = other.getName().equals(often) ? other : method;
            }
        }
        return method;
    }

    private static Object answer(Object on, Method method, Object[] values) throws ReflectiveOperationException {
        try {
            return method.invoke(on, values);
        } catch (InvocationTargetException thrown) {
            return thrown.getCause().getClass().getName();
        }
    }

    private static Object[] values(Method method) {
        Parameter[] parameters = method.getParameters();
        Object[] values = new Object[parameters.length];
        for (int i = 0; i < values.length; i++) {
            values[i] = parameters[i].getType() == boolean.class ? (Object) (below(2) == 0) : value(parameters[i].getName());
        }
        return values;
    }

    private static int value(String name) {
        if (below(wildness) == 0) {
            return new int[] {-2, -1, 0, 1, 2, 3, 4, 29, 30, 31, 39, 40, 41, 999, 1000, -10, Integer.MAX_VALUE,
                Integer.MIN_VALUE}[below(18)];
        }
        switch (name) {
            case "row":
            case "other":
                return below(4);
            case "code":
                return below(codes + 1) - 1;
            case "cursor":
                return below(3);
            case "kind":
                return below(4) == 0 ? 1 : below(3);
            case "view":
            case "how":
                return below(2);
            case "what":
                return below(4);
            case "size":
                return below(42) - 1;
            default:
                return below(below(3) == 0 ? 41 : 6);
        }
    }

    private static int below(int bound) {
        seed = seed * 6364136223846793005L + 1442695040888963407L;
        return (int) ((seed >>> 33) % bound);
    }
}
