/**
 * What was asked before changes no answer: each call that tells something is made on a net of which all
 * had been asked, and on one of which nothing had been; all answers behind it are the same.
 */
public final class AskedBeforeTest {
    public static void main(String[] args) {
        tellingOfTheNet();
        tellingOfArcs();
        tellingOfPairs();
        tellingOfTheDay();
        firstOnes();
        oneTellingAfterAnother();
        Check.end("AskedBeforeTest");
    }

    /** A net in which something is late, something can be made and something can be chosen. */
    private static MaxplusJunction net() {
        MaxplusJunction x = new MaxplusJunction();
        int arcs = x.lay(3, 29);
        x.arc(0, 3, 30, 1, Nets.TRACK);
        x.arc(3, 0, 30, 1, Nets.TRACK);
        x.arc(0, 4, 70, 0, Nets.TRACK);
        x.pair(arcs, arcs + 1);
        x.riders(arcs - 1, 3, true);
        x.delay(1, 2, 100);
        x.delay(2, 0, 30);
        return x;
    }

    private static void askAll(MaxplusJunction x) {
        x.digest();
        x.best(0);
        x.heals(20);
        x.wave(0, 0, 50);
        x.without(0);
        x.wouldMake(100);
        x.ride(0, 0, 1);
        x.crews(5);
        x.feels(0, 100);
        x.power(0, 1, 3);
        x.free(1, 30);
        x.board(0);
    }

    /** The call answers the same, and so does all that is asked behind it. */
    private static void told(String what, Answers.Maker maker, Answers.Call call) {
        MaxplusJunction asked = maker.make();
        askAll(asked);
        Check.due(what, Answers.of(maker.make(), call), Answers.of(asked, call));
        Check.due(what + ", the first other answer behind it", "", Answers.difference(() -> {
            MaxplusJunction x = maker.make();
            Answers.of(x, call);
            return x;
        }, () -> {
            MaxplusJunction x = maker.make();
            askAll(x);
            Answers.of(x, call);
            return x;
        }));
    }

    private static void tellingOfTheNet() {
        Answers.Maker net = AskedBeforeTest::net;
        told("period(1)", net, x -> x.period(1));
        told("period(500)", net, x -> x.period(500));
        told("departure(..)", net, x -> x.departure(5, 40, 9));
        told("move(0, ..)", net, x -> x.move(0, 500));
        told("move(1, ..)", net, x -> x.move(1, 0));
        told("make()", net, x -> x.make());
        told("make() by 500", () -> {
            MaxplusJunction x = net();
            x.period(500);
            return x;
        }, x -> x.make());
    }

    private static void tellingOfArcs() {
        Answers.Maker net = AskedBeforeTest::net;
        told("arc(..)", net, x -> x.arc(0, 1, 300, 0, Nets.RUN));
        told("arc(..) back", net, x -> x.arc(1, 0, 300, 1, Nets.RUN));
        told("an arc that is refused", net, x -> x.arc(1, 0, 300, 0, Nets.RUN));
        int arcs = new MaxplusJunction().lay(3, 29);
        told("riders(.., 99, ..)", net, x -> x.riders(arcs - 1, 99, true));
        told("riders(.., false)", net, x -> x.riders(arcs - 1, 3, false));
        told("riders of another one", net, x -> x.riders(arcs - 2, 1, true));
        for (int number = 0; number < arcs + 3; number++) {
            int arc = number;
            told("live(" + arc + ", false)", net, x -> x.live(arc, false));
            told("live(" + arc + ", true)", net, x -> x.live(arc, true));
            told("live(" + arc + ", true) of one that is broken", () -> {
                MaxplusJunction x = net();
                x.live(arc, false);
                return x;
            }, x -> x.live(arc, true));
        }
    }

    private static void tellingOfPairs() {
        Answers.Maker tracks = () -> {
            MaxplusJunction x = Nets.of(0, 10, 20);
            x.arc(0, 1, 30, 0, Nets.TRACK);
            x.arc(1, 2, 40, 0, Nets.TRACK);
            x.arc(0, 2, 60, 1, Nets.TRACK);
            return x;
        };
        for (int one = 0; one < 3; one++) {
            for (int other = 0; other < 3; other++) {
                int first = one;
                int second = other;
                told("pair(" + one + ", " + other + ")", tracks, x -> x.pair(first, second));
            }
        }
    }

    private static void tellingOfTheDay() {
        Answers.Maker net = AskedBeforeTest::net;
        told("horizon(1)", net, x -> x.horizon(1));
        told("horizon(12)", net, x -> x.horizon(12));
        told("delay(..)", net, x -> x.delay(0, 0, 500));
        told("delay(.., 0)", net, x -> x.delay(1, 2, 0));
        told("clear()", net, x -> x.clear());
        told("storm(..)", net, x -> x.storm(17, 100));
        told("decide()", net, x -> x.decide());
    }

    /** What can be asked of nothing is asked, then the first DEPARTURES come. */
    private static void firstOnes() {
        Answers.Maker asked = () -> {
            MaxplusJunction x = new MaxplusJunction();
            x.digest();
            x.best(0);
            x.crews(0);
            x.heals(9);
            return x;
        };
        for (int seed = 0; seed < 100; seed += 9) {
            int its = seed;
            Check.due("behind lay", "", Answers.difference(() -> {
                MaxplusJunction x = new MaxplusJunction();
                x.lay(4, its);
                return x;
            }, () -> {
                MaxplusJunction x = asked.make();
                x.lay(4, its);
                return x;
            }));
        }
        Check.due("behind departure", "", Answers.difference(() -> Nets.of(9), () -> {
            MaxplusJunction x = asked.make();
            x.departure(0, 9, 1);
            return x;
        }));
    }

    /** As often as one likes: asked each time, or only at the end. */
    private static void oneTellingAfterAnother() {
        MaxplusJunction asked = net();
        MaxplusJunction told = net();
        for (int round = 0; round < 20; round++) {
            for (MaxplusJunction x : new MaxplusJunction[] {asked, told}) {
                x.delay(round % 5, round % 6, 7 * round);
                x.live(round % 6, round % 4 > 0);
                x.move(round % 5, 13 * round);
            }
            askAll(asked);
        }
        Check.due("digest", told.digest(), asked.digest());
        Check.due("best", told.best(0), asked.best(0));
        Check.due("decide", told.decide(), asked.decide());
        Check.due("digest behind it", told.digest(), asked.digest());
    }
}
