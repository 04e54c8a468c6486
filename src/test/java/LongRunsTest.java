import java.lang.reflect.InvocationTargetException;
import java.lang.reflect.Method;
import java.lang.reflect.Modifier;
import java.util.Arrays;
import java.util.HashMap;
import java.util.Map;
import java.util.Random;

/** Runs of 512 calls drawn from written seeds, each answer compared with PlainHouse. */
public final class LongRunsTest {
    private static final int RUNS = 1500;
    private static final int CALLS = 512;
    private static final String[] NAMES = {"fund", "holiday", "tell", "hold", "rank", "link", "cancel", "nextDay",
        "goTo", "has", "trade", "settled", "business", "date", "count", "astray"};
    // How often each call comes, for runs of several kinds: mixed, many trades, many groups, many days.
    private static final int[][] WEIGHTS = {
        {14, 2, 60, 5, 14, 10, 4, 16, 1, 8, 24, 8, 2, 2, 4, 1},
        {10, 1, 160, 2, 6, 4, 2, 3, 0, 3, 6, 3, 1, 1, 1, 1},
        {12, 1, 60, 6, 16, 30, 5, 9, 0, 6, 16, 6, 1, 1, 2, 1},
        {14, 8, 40, 3, 10, 4, 2, 30, 14, 4, 14, 6, 8, 12, 2, 1},
    };

    private static final Map<String, Method> HOUSE = methodsOf(SettleHouse.class);
    private static final Map<String, Method> PLAIN = methodsOf(PlainHouse.class);

    private final Random random;
    private final int[] weights;
    private final int parties;
    private final int securities;
    private final int scale;
    private final SettleHouse house = new SettleHouse();
    private final PlainHouse plain = new PlainHouse();
    private int[] lastTold = null;

    private LongRunsTest(int seed) {
        random = new Random(seed);
        weights = WEIGHTS[seed % WEIGHTS.length];
        parties = 2 + random.nextInt(seed % 5 == 0 ? 14 : 3);
        securities = 1 + random.nextInt(seed % 5 == 1 ? 8 : 2);
        scale = seed % 50 == 7 ? 3000 : 1;
    }

    public static void main(String[] args) {
        for (int seed = 0; seed < RUNS; seed++) {
            LongRunsTest run = new LongRunsTest(seed);
            for (int i = 0; i < CALLS; i++) {
                int[] call = run.draw();
                String name = NAMES[call[0]];
                Object want = Check.outcome(() -> answer(PLAIN.get(name), run.plain, call));
                Check.due("seed " + seed + ", call " + i + ", " + text(call), want,
                        () -> answer(HOUSE.get(name), run.house, call));
            }
        }
        Check.finish();
    }

    private static String text(int[] call) {
        return NAMES[call[0]] + Arrays.toString(Arrays.copyOfRange(call, 1, call.length));
    }

    private int[] draw() {
        int left = random.nextInt(Arrays.stream(weights).sum());
        int name = 0;
        while (left >= weights[name]) {
            left -= weights[name++];
        }
        int[] call = fitting(name);
        if (call.length > 1 && random.nextInt(25) == 0) {
            call[1 + random.nextInt(call.length - 1)] = odd();
        }
        return call;
    }

    private int odd() {
        int[] odds = {-2, -1, 0, 8, 16, 11, 5, 4, 150, 1001, 20001, 1000001, 1000000001, Integer.MIN_VALUE, Integer.MAX_VALUE};
        return odds[random.nextInt(odds.length)];
    }

    private int[] fitting(int name) {
        int today = plain.date(4);
        switch (name) {
            case 0: return new int[] {name, party(), random.nextInt(securities + 1) - 1, scale * (1 + random.nextInt(60))};
            case 1: return new int[] {name, today + 1 + random.nextInt(20)};
            case 2: return told(today);
            case 3: return new int[] {name, deal(), party(), random.nextInt(3) / 2};
            case 4: return new int[] {name, deal(), random.nextInt(4), random.nextInt(4) < 3 ? 1 : 0};
            case 5: return new int[] {name, deal(), deal()};
            case 6: return new int[] {name, deal(), party()};
            case 8: return new int[] {name, today + 1 + random.nextInt(random.nextInt(4) == 0 ? 402 : 9)};
            case 9: return new int[] {name, party(), random.nextInt(securities + 1) - 1};
            case 10: return new int[] {name, deal(), random.nextInt(11)};
            case 11: return new int[] {name, random.nextInt(30), random.nextInt(4)};
            case 12: return new int[] {name, random.nextInt(today + 30), random.nextInt(30)};
            case 13: return new int[] {name, random.nextInt(5)};
            case 14: return new int[] {name, random.nextInt(5)};
            default: return new int[] {name};
        }
    }

    private int party() {
        return random.nextInt(parties);
    }

    /** Mostly one of the newest, since the older ones are mostly closed. */
    private int deal() {
        int deals = 0;
        for (int state = 0; state < 5; state++) {
            deals += plain.count(state);
        }
        int from = random.nextInt(5) == 0 ? 0 : Math.max(0, deals - 12);
        return from + random.nextInt(deals - from + 1);
    }

    /** Mostly the other side of what was told before, so that most are matched. */
    private int[] told(int today) {
        if (lastTold != null && random.nextInt(8) != 0) {
            int[] c = lastTold;
            lastTold = null;
            return new int[] {2, c[2], c[1], 1 - c[3], c[4], c[5], c[6], c[7], c[8]};
        }
        int one = party();
        int other = (one + 1 + random.nextInt(parties - 1)) % parties;
        int quantity = random.nextInt(8) == 0 ? random.nextInt(2) : scale * random.nextInt(40);
        int amount = random.nextInt(4) == 0 ? 0 : scale * random.nextInt(80);
        int day = Math.max(0, today - random.nextInt(4));
        int lag = random.nextInt(3) == 0 ? random.nextInt(11) : random.nextInt(2);
        lastTold = new int[] {2, one, other, random.nextInt(2), random.nextInt(securities), quantity, amount, day, lag};
        return lastTold.clone();
    }

    private static Map<String, Method> methodsOf(Class<?> type) {
        Map<String, Method> methods = new HashMap<>();
        for (Method method : type.getDeclaredMethods()) {
            if (!Modifier.isPrivate(method.getModifiers())) {
                methods.put(method.getName(), method);
            }
        }
        return methods;
    }

    private static Object answer(Method method, Object target, int[] call) {
        Object[] arguments = new Object[call.length - 1];
        for (int i = 0; i < arguments.length; i++) {
            boolean isFlag = method.getParameterTypes()[i] == boolean.class;
            arguments[i] = isFlag ? (Object) (call[i + 1] == 1) : (Object) call[i + 1];
        }
        try {
            return method.invoke(target, arguments);
        } catch (InvocationTargetException e) {
            throw (RuntimeException) e.getCause();
        } catch (IllegalAccessException e) {
            throw new AssertionError(e);
        }
    }
}
