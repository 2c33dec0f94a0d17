import java.lang.reflect.InvocationTargetException;
import java.lang.reflect.Method;
import java.util.ArrayList;
import java.util.Arrays;
import java.util.Comparator;
import java.util.List;
import java.util.Random;

/**
 * Promises 1 to 35 by chance: runs of calls, the same ones every time, on the class and on the oracle;
 * each answer and each exception must be the same. Most arguments are good ones, some are wrong.
 * Arguments: how many runs (120 by themselves), and the seed of the first one (1).
 */
public final class OracleTest {
    // An object is used for at most 512 calls.
    private static final int CALLS = 512;
    private static final List<String> TELLING = List.of("arc", "arc", "arc", "arc", "arc", "arc", "arc", "arc",
            "departure", "riders", "riders", "pair", "live", "delay", "delay", "move");

    private final Random random;
    private final List<Method> methods;
    private final Oracle oracle = new Oracle();
    private final MaxplusJunction net = new MaxplusJunction();
    private final List<String> told = new ArrayList<>();
    private final int mostTime;
    private final int mostDepartures;
    private final int build;
    private final boolean isDense;
    private int departures = 0;
    private int arcs = 0;

    private OracleTest(long seed, List<Method> methods) {
        random = new Random(seed);
        this.methods = methods;
        mostTime = new int[] {8, 30, 60, 300}[random.nextInt(4)];
        mostDepartures = 2 + random.nextInt(13);
        build = new int[] {20, 50, 90}[random.nextInt(3)];
        isDense = random.nextInt(3) == 0;
    }

    public static void main(String[] args) {
        if (args.length == 0) {
            Check.watch();
        }
        int runs = args.length > 0 ? Integer.parseInt(args[0]) : 120;
        long first = args.length > 1 ? Long.parseLong(args[1]) : 1;
        List<Method> methods = new ArrayList<>(Arrays.asList(Oracle.class.getDeclaredMethods()));
        methods.removeIf(m -> !java.lang.reflect.Modifier.isPublic(m.getModifiers()));
        methods.sort(Comparator.comparing(Method::getName));
        for (long seed = first; seed < first + runs; seed++) {
            if (!new OracleTest(seed, methods).isRight()) {
                System.out.println("seed " + seed);
                System.exit(1);
            }
        }
        System.out.println("OracleTest: " + runs + " runs of " + CALLS + " calls, all as the oracle says");
    }

    private boolean isRight() {
        boolean isLaid = random.nextInt(3) == 0;
        for (int call = 0; call < CALLS; call++) {
            Method method = pick(call, isLaid);
            Object[] args = arguments(method);
            aim(method, args);
            if (method.getName().equals("digest") && random.nextInt(4) != 0) {
                continue;
            }
            String want = answer(method, oracle, args);
            String got;
            try {
                Method asked = MaxplusJunction.class.getMethod(method.getName(), method.getParameterTypes());
                got = answer(asked, net, args);
            } catch (NoSuchMethodException e) {
                got = "no such method";
            }
            told.add(method.getName() + Arrays.toString(args) + " " + got);
            if (!want.equals(got)) {
                told.forEach(System.out::println);
                System.out.println("due is " + want);
                return false;
            }
            if (method.getName().equals("departure") && !got.contains("Exception")) {
                departures++;
            } else if (method.getName().equals("arc") && !got.contains("Exception")) {
                arcs++;
            } else if (method.getName().equals("lay") && !got.contains("Exception")) {
                arcs = Integer.parseInt(got);
                departures = (int) countDepartures();
            }
        }
        return true;
    }

    private long countDepartures() {
        long count = 0;
        for (int line = 0; line < 6; line++) {
            count += oracle.ofLine(line, 0);
        }
        return count;
    }

    private Method pick(int call, boolean isLaid) {
        if (call == 0 && isLaid) {
            return named("lay");
        }
        if (call < 8 && !isLaid || call < build && random.nextInt(12) > 0) {
            String name = TELLING.get(random.nextInt(TELLING.size()));
            boolean isFull = departures >= mostDepartures && random.nextInt(20) > 0;
            return named(departures == 0 || call < 8 && !isFull ? "departure"
                    : name.equals("departure") && isFull ? "arc" : name);
        }
        Method any = methods.get(random.nextInt(methods.size()));
        if (random.nextInt(12) == 0) {
            return named("make");
        }
        boolean isRare = any.getName().equals("period") || any.getName().equals("clear")
                || any.getName().equals("departure") || any.getName().equals("arc");
        return isRare && random.nextInt(4) > 0 ? named("at") : any;
    }

    private Method named(String name) {
        for (Method method : methods) {
            if (method.getName().equals(name)) {
                return method;
            }
        }
        throw new AssertionError(name);
    }

    private static String answer(Method method, Object object, Object[] args) {
        try {
            return String.valueOf(method.invoke(object, args));
        } catch (InvocationTargetException e) {
            return e.getCause().getClass().getSimpleName();
        } catch (IllegalAccessException e) {
            return "no access";
        }
    }

    private Object[] arguments(Method method) {
        int d = departures - 1;
        int a = arcs - 1;
        int[] most;
        switch (method.getName()) {
            case "period": case "wouldMake":
                most = new int[] {random.nextInt(3) == 0 ? 500 : Math.min(500, 3 * mostTime)};
                break;
            case "departure": most = new int[] {5, 100, 9}; break;
            case "move": most = new int[] {d, random.nextInt(9) == 0 ? 999 : 120}; break;
            case "arc": most = new int[] {d, d, mostTime, 2, 3}; break;
            case "riders": most = new int[] {a, random.nextInt(2) == 0 ? 2 : 99, 1}; break;
            case "pair": most = new int[] {a, a}; break;
            case "live": most = new int[] {a, 1}; break;
            case "lay": most = new int[] {4, 99}; break;
            case "horizon": most = new int[] {12}; break;
            case "delay": case "wave": most = new int[] {d, 5, random.nextInt(4) == 0 ? 500 : 50}; break;
            case "storm": most = new int[] {99, 100}; break;
            case "ofDeparture": most = new int[] {d, 7}; break;
            case "ofArc": most = new int[] {a, 9}; break;
            case "rings": most = new int[] {6}; break;
            case "healing": most = new int[] {d, d}; break;
            case "feels": most = new int[] {d, random.nextInt(2) == 0 ? 40 : 500}; break;
            case "free": most = new int[] {d, 30}; break;
            case "power": most = new int[] {d, d, 30}; break;
            case "at": most = new int[] {d, 6, 5}; break;
            case "day": most = new int[] {7}; break;
            case "board": most = new int[] {d}; break;
            case "ride": most = new int[] {d, 5, d}; break;
            case "ofLine": most = new int[] {5, 3}; break;
            case "crews": case "heals": most = new int[] {100}; break;
            case "best": most = new int[] {2}; break;
            case "without": most = new int[] {a}; break;
            default: most = new int[0];
        }
        Object[] args = new Object[most.length];
        for (int n = 0; n < most.length; n++) {
            args[n] = number(most[n]);
            if (method.getParameterTypes()[n] == boolean.class) {
                args[n] = random.nextInt(6) > 0;
            }
        }
        return args;
    }

    /** Most pairs are told of tracks, most riders of connections, and most arcs leave no ring behind. */
    private void aim(Method method, Object[] args) {
        String name = method.getName();
        if (random.nextInt(8) == 0) {
            return;
        }
        if (name.equals("pair")) {
            args[0] = arcOfKind(3, (Integer) args[0]);
            args[1] = arcOfKind(3, (Integer) args[1]);
        } else if (name.equals("riders")) {
            args[0] = arcOfKind(2, (Integer) args[0]);
        } else if (name.equals("arc") && departures > 0) {
            int from = (Integer) args[0];
            int to = (Integer) args[1];
            if (from > to && random.nextInt(3) > 0) {
                args[0] = to;
                args[1] = from;
            } else if (from >= to) {
                args[3] = 1 + random.nextInt(2);
            }
            if (isDense) {
                args[4] = 2 + random.nextInt(2);
            }
        }
    }

    private int arcOfKind(int kind, int otherwise) {
        for (int tries = 0; tries < 9 && arcs > 0; tries++) {
            int arc = random.nextInt(arcs);
            if (oracle.ofArc(arc, 4) == kind) {
                return arc;
            }
        }
        return otherwise;
    }

    private Integer number(int most) {
        switch (random.nextInt(80)) {
            case 0: return most + 1;
            case 1: return -1;
            case 2: return random.nextBoolean() ? Integer.MAX_VALUE : Integer.MIN_VALUE;
            case 3: return most;
            default: return most < 0 ? 0 : random.nextInt(most + 1);
        }
    }
}
