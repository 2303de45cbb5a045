import java.lang.reflect.Method;
import java.lang.reflect.Modifier;
import java.util.ArrayList;
import java.util.List;
import java.util.Random;

/** No call throws, for any arguments in any state, and far behind the 512th call too. */
final class WildTest {
    private static final int[] WILD = {Integer.MIN_VALUE, Integer.MIN_VALUE + 1, -1000000001, -100, -2, -1, 0, 1, 2, 3, 4, 5,
        7, 8, 9, 10, 20, 30, 31, 32, 40, 41, 50, 51, 199, 200, 300, 400, 999, 3030, 9999, 99999, 100000,
        Integer.MAX_VALUE - 1, Integer.MAX_VALUE};

    public static void main(String[] args) throws Exception {
        List<Method> methods = new ArrayList<>();
        for (Method method : EmptyLand.class.getDeclaredMethods()) {
            if (Modifier.isPublic(method.getModifiers())) {
                methods.add(method);
            }
        }
        methods.sort(java.util.Comparator.comparing(Method::getName));
        for (int run = 0; run < 40; run++) {
            Random random = new Random(run);
            EmptyLand land = new EmptyLand();
            for (int call = 0; call < 3000; call++) {
                Method method = methods.get(random.nextInt(methods.size()));
                Object[] wild = new Object[method.getParameterCount()];
                for (int i = 0; i < wild.length; i++) {
                    int v = random.nextInt(3) == 0 ? random.nextInt(12) : WILD[random.nextInt(WILD.length)];
                    wild[i] = method.getParameterTypes()[i] == long.class ? (Object) ((long) v << 32 | v) : (Object) v;
                }
                try {
                    method.invoke(land, wild);
                } catch (java.lang.reflect.InvocationTargetException e) {
                    System.out.println("run " + run + ": " + method.getName() + java.util.Arrays.toString(wild)
                        + " threw " + e.getCause());
                    System.exit(1);
                }
            }
        }
        System.out.println("no call threw");
    }
}
