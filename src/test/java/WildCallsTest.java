import java.lang.reflect.InvocationTargetException;
import java.lang.reflect.Method;
import java.lang.reflect.Modifier;
import java.util.Arrays;
import java.util.Comparator;
import java.util.Random;

/** Whatever the arguments and the state, no call throws, and each comes to its end; beyond 512 calls too. */
public final class WildCallsTest {
    private static final Check c = new Check("WildCallsTest");
    private static final int[] FAR = {Integer.MIN_VALUE, Integer.MIN_VALUE + 1, -2000000000, -100000, -1, 99999, 100000,
        999999, 1000000, 50000000, 99999999, 199989999, 2000000000, Integer.MAX_VALUE - 1, Integer.MAX_VALUE};
    private static final String SIGNS = "0123456789dhlwkn+-*/<=>?:()gomt ;";

    private static int made;
    private static int granted;

    private final Random random;
    private final Method[] calls;
    private final PlanesBack x = new PlanesBack();

    private WildCallsTest(long seed) {
        random = new Random(seed);
        calls = Arrays.stream(PlanesBack.class.getDeclaredMethods())
            .filter(call -> Modifier.isPublic(call.getModifiers()))
            .sorted(Comparator.comparing(Method::getName)).toArray(Method[]::new);
    }

    public static void main(String[] args) throws IllegalAccessException {
        for (int seed = 0; seed < 150; seed++) {
            new WildCallsTest(seed).go(seed);
        }
        System.out.println("WildCallsTest: " + made + " calls, " + granted + " not refused");
        c.is("calls enough, and enough that are not refused", made > 500000 && granted > made / 5);
        c.end();
    }

    private void go(int seed) throws IllegalAccessException {
        int most = seed % 4 == 0 ? 20000 : 512;
        String thrown = "";
        for (int n = 0; n < most && thrown.isEmpty(); n++) {
            Method call = random.nextInt(6) == 0 ? callOf("feed") : calls[random.nextInt(calls.length)];
            thrown = thrownBy(call);
        }
        c.is("seed " + seed + ": no call throws " + thrown, thrown.isEmpty());
    }

    private Method callOf(String name) {
        return Arrays.stream(calls).filter(call -> call.getName().equals(name)).findFirst().orElseThrow();
    }

    private String thrownBy(Method call) throws IllegalAccessException {
        Object[] arguments = new Object[call.getParameterCount()];
        for (int i = 0; i < arguments.length; i++) {
            arguments[i] = call.getName().equals("feed") && i == 1 ? text() : number();
        }
        try {
            int answer = (Integer) call.invoke(x, arguments);
            made++;
            granted += answer >= 0 ? 1 : 0;
            return "";
        } catch (InvocationTargetException e) {
            return call.getName() + Arrays.toString(arguments) + ": " + e.getCause();
        }
    }

    private int text() {
        int v = 0;
        for (int i = 0; i < 4; i++) {
            v = v << 8 | (random.nextInt(40) == 0 ? random.nextInt(256) : SIGNS.charAt(random.nextInt(SIGNS.length())));
        }
        return v;
    }

    private int number() {
        switch (random.nextInt(16)) {
            case 0: return FAR[random.nextInt(FAR.length)];
            case 1: return random.nextInt();
            case 2: return random.nextInt(1000);
            case 3: return random.nextInt(14) - 1;
            default: return random.nextInt(4);
        }
    }
}
