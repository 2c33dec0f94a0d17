import java.lang.reflect.InvocationTargetException;
import java.lang.reflect.Method;
import java.lang.reflect.Modifier;
import java.util.ArrayList;
import java.util.Arrays;
import java.util.HashMap;
import java.util.List;
import java.util.Map;

/**
 * All that can be asked of a net. Two nets that were told the same answer all of it alike, so a call
 * that should change nothing is looked at by asking a net with it and a net without it.
 */
final class Answers {
    // An object is used for at most 512 calls, those that tell its net among them.
    private static final int MOST_QUESTIONS = 380;
    private static final Map<String, Method> METHODS = methodsByName();

    interface Maker {
        MaxplusJunction make();
    }

    interface Call {
        Object of(MaxplusJunction x);
    }

    private final List<String> names = new ArrayList<>();
    private final List<Object[]> arguments = new ArrayList<>();
    // How many of them are good ones in each net, so that none of their answers is an exception.
    private int goodOnes = 0;

    private Answers() {
    }

    /** What a call answers, as a text; the name of the exception, if it throws one. */
    static String of(MaxplusJunction x, Call call) {
        try {
            return String.valueOf(call.of(x));
        } catch (RuntimeException e) {
            return e.getClass().getSimpleName();
        }
    }

    /** The same of a call by the name of its method. */
    static String of(MaxplusJunction x, String name, Object... args) {
        try {
            return String.valueOf(METHODS.get(name).invoke(x, args));
        } catch (InvocationTargetException e) {
            return e.getCause().getClass().getSimpleName();
        } catch (IllegalAccessException e) {
            return "no access";
        }
    }

    private static Map<String, Method> methodsByName() {
        Map<String, Method> methods = new HashMap<>();
        for (Method method : MaxplusJunction.class.getDeclaredMethods()) {
            if (Modifier.isPublic(method.getModifiers())) {
                methods.put(method.getName(), method);
            }
        }
        return methods;
    }

    /**
     * The first question that both nets do not answer alike, or that throws though it is a good one, with
     * both answers; "" if there is none.
     */
    static String difference(Maker one, Maker other) {
        Answers all = ofAll(one.make());
        for (int begin = 0; begin < all.names.size(); begin += MOST_QUESTIONS) {
            MaxplusJunction x = one.make();
            MaxplusJunction y = other.make();
            for (int n = begin; n < all.names.size() && n < begin + MOST_QUESTIONS; n++) {
                String want = of(x, all.names.get(n), all.arguments.get(n));
                String got = of(y, all.names.get(n), all.arguments.get(n));
                if (!want.equals(got) || n < all.goodOnes && want.endsWith("Exception")) {
                    return all.names.get(n) + Arrays.toString(all.arguments.get(n)) + " " + want + " and " + got;
                }
            }
        }
        return "";
    }

    private static Answers ofAll(MaxplusJunction sample) {
        int departures = count(sample, "ofDeparture");
        int arcs = count(sample, "ofArc");
        int turns = sample.day(5);
        Answers all = new Answers();
        all.ofTheNet(departures, arcs);
        all.ofTheDay(departures, turns);
        all.ofPairsOfDepartures(departures);
        all.goodOnes = all.names.size();
        all.lastOfAll();
        return all;
    }

    private static int count(MaxplusJunction x, String name) {
        int count = 0;
        while (count < 99 && !of(x, name, count, 0).endsWith("Exception")) {
            count++;
        }
        return count;
    }

    private void ask(String name, Object... args) {
        names.add(name);
        arguments.add(args);
    }

    private void askEach(String name, int most) {
        for (int what = 0; what <= most; what++) {
            ask(name, what);
        }
    }

    private void ofTheNet(int departures, int arcs) {
        ask("digest");
        ask("isSound");
        askEach("rings", 6);
        askEach("best", 2);
        for (int departure = 0; departure < departures; departure++) {
            for (int what = 0; what <= 7; what++) {
                ask("ofDeparture", departure, what);
            }
            ask("feels", departure, 1);
            ask("feels", departure, 500);
            ask("free", departure, 0);
            ask("free", departure, 30);
        }
        for (int arc = 0; arc < arcs; arc++) {
            for (int what = 0; what <= 9; what++) {
                ask("ofArc", arc, what);
            }
            ask("without", arc);
        }
    }

    private void ofTheDay(int departures, int turns) {
        askEach("day", 7);
        for (int line = 0; line < 6; line++) {
            for (int what = 0; what <= 3; what++) {
                ask("ofLine", line, what);
            }
        }
        for (int departure = 0; departure < departures; departure++) {
            ask("board", departure);
            for (int turn = 0; turn < turns; turn++) {
                for (int what = 0; what <= 5; what++) {
                    ask("at", departure, turn, what);
                }
                ask("wave", departure, turn, 99);
            }
        }
        ask("crews", 0);
        ask("crews", 100);
        ask("heals", 1);
        ask("heals", 100);
    }

    private void ofPairsOfDepartures(int departures) {
        for (int from = 0; from < departures; from++) {
            for (int to = 0; to < departures; to++) {
                ask("healing", from, to);
                ask("power", from, to, 2);
                ask("ride", from, 0, to);
            }
        }
    }

    /** Calls that tell, and by what they answer show what can not be asked otherwise. */
    private void lastOfAll() {
        ask("wouldMake", 500);
        ask("wouldMake", 1);
        ask("departure", 0, 0, 1);
        ask("arc", 0, 0, 1, 1, 3);
        ask("arc", 0, 0, 2, 1, 3);
        ask("arc", 0, 0, 3, 1, 2);
        ask("arc", 0, 0, 4, 1, 2);
        ask("period", 60);
        ask("horizon", 12);
        ask("clear");
        ask("decide");
        ask("make");
        ask("digest");
    }
}
