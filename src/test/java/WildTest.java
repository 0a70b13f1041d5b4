import java.lang.reflect.*;
import java.util.*;

/** Any arguments in any state: no call throws, and the same calls give the same answers. */
public final class WildTest {
    private static final Due DUE = new Due();
    private static final int[] EDGES = {-1, 0, 1, 2, 3, 9, 10, 11, 14, 15, 16, 40, 41, 60, 599, 600, Integer.MIN_VALUE, Integer.MIN_VALUE + 1,
        Integer.MAX_VALUE, Integer.MAX_VALUE - 1, -2, -9, -10, -11, 1 << 16, 1 << 30, 1 << 31};
    private static final String[] TEXTS = {"step 1;account 9;account 99;account 5;", "block 0 3 0;block 1 4 1;pay 0 1 3;block 1 2 0;block 0 5 2;block 2 9 0;",
        "head 1;body 2;body 1;head 2;rule 1;head 4;body 4;drop 3;", "tip 2 0;tip 3 1;", "pay 0 1 4 5;pay 1 2 3 4;", "", "pay;", "account 1;account 2;"};

    public static void main(String[] args) throws Exception {
        List<Method> methods = new ArrayList<>();
        for (Method m : WorkChains.class.getDeclaredMethods()) if (Modifier.isPublic(m.getModifiers())) methods.add(m);
        methods.sort(Comparator.comparing(Method::getName));
        for (int seed = 0; seed < 600; seed++) {
            Random random = new Random(seed);
            WorkChains x = new WorkChains(), y = new WorkChains();
            for (int call = 0; call < 400; call++) {
                if (random.nextInt(8) == 0) {
                    String text = TEXTS[random.nextInt(TEXTS.length)];
                    x.end(0);
                    y.end(0);
                    Due.put(x, text);
                    Due.put(y, text);
                }
                Method m = methods.get(random.nextInt(methods.size()));
                Object[] given = new Object[m.getParameterCount()];
                for (int i = 0; i < given.length; i++) given[i] = m.getParameterTypes()[i] == int.class ? (Object) number(random) : (Object) random.nextBoolean();
                String name = "seed " + seed + ", call " + call + ": " + m.getName() + Arrays.toString(given);
                try {
                    DUE.due(name + " twice", m.invoke(x, given).equals(m.invoke(y, given)), true);
                } catch (InvocationTargetException e) {
                    DUE.due(name + " threw " + e.getCause(), true, false);
                }
            }
        }
        DUE.close("WildTest");
    }

    private static int number(Random random) {
        switch (random.nextInt(3)) {
            case 0: return random.nextInt(4);
            case 1: return EDGES[random.nextInt(EDGES.length)];
            default: return random.nextInt(60) == 0 ? random.nextInt() : random.nextInt(16) - 1;
        }
    }
}
