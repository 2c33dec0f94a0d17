import java.util.Arrays;

/**
 * A railway's delays as an algebra: a net of departures and arcs, its rings and slack, days on
 * which delays run through it, the best choice of connections and orders, and those who ride.
 */
public final class MaxplusJunction {
    private static final int NONE = -1;
    private static final int MOST_PERIOD = 500;
    private static final int MOST_DEPARTURES = 14;
    private static final int MOST_LINES = 6;
    private static final int MOST_OFFSET = 999;
    private static final int MOST_WEIGHT = 99;
    private static final int MOST_ARCS = 36;
    private static final int MOST_TIME = 300;
    private static final int MOST_SHIFT = 2;
    private static final int MOST_RIDERS = 99;
    private static final int MOST_LOOSE = 4;
    private static final int MOST_PAIRS = 3;
    private static final int MOST_TURNS = 12;
    private static final int MOST_LATENESS = 500;
    private static final int MOST_SEED = 99;
    private static final int MOST_FREE_TURN = 30;
    private static final int MOST_STEPS = 30;
    private static final int RUN = 0;
    private static final int STOCK = 1;
    private static final int CONNECTION = 2;
    private static final int TRACK = 3;
    // Far enough below 0 that no sum of TIMES along a way lifts it to 0 again.
    private static final int UNREACHED = -1000000;

    private final Net net = new Net();
    private final Order order = new Order();
    private final Flow flow = new Flow();
    private final Rings rings = new Rings();
    private final Timetable timetable = new Timetable();
    private final Day day = new Day();
    private final Blame blame = new Blame();
    private final Day trial = new Day();
    private final Choices choices = new Choices();
    private final Travel travel = new Travel();
    // The version of the net that day and blame were worked out for.
    private int dayVersion = NONE;

    public MaxplusJunction() {
    }

    // ---- the net

    public int period(int period) throws IllegalArgumentException {
        if (isOutside(period, 1, MOST_PERIOD)) {
            throw new IllegalArgumentException("period is not 1 to 500");
        }
        int before = net.period;
        net.period = period;
        net.version++;
        return before;
    }

    public int departure(int line, int offset, int weight)
            throws IllegalArgumentException, IllegalStateException {
        if (isOutside(line, 0, MOST_LINES - 1) || isOutside(offset, 0, MOST_OFFSET)
                || isOutside(weight, 0, MOST_WEIGHT)) {
            throw new IllegalArgumentException("line, offset or weight is out of its bounds");
        }
        if (net.departures >= MOST_DEPARTURES) {
            throw new IllegalStateException("there are 14 departures");
        }
        return net.addDeparture(line, offset, weight);
    }

    public int move(int departure, int offset)
            throws IndexOutOfBoundsException, IllegalArgumentException {
        if (!net.hasDeparture(departure)) {
            throw new IndexOutOfBoundsException("no such departure");
        }
        if (isOutside(offset, 0, MOST_OFFSET)) {
            throw new IllegalArgumentException("offset is not 0 to 999");
        }
        int before = net.offset[departure];
        net.offset[departure] = offset;
        net.version++;
        return before;
    }

    public int arc(int from, int to, int time, int shift, int kind)
            throws IndexOutOfBoundsException, IllegalArgumentException, IllegalStateException {
        if (!net.hasDeparture(from) || !net.hasDeparture(to)) {
            throw new IndexOutOfBoundsException("no such departure");
        }
        if (isOutside(time, 1, MOST_TIME) || isOutside(shift, 0, MOST_SHIFT)
                || isOutside(kind, RUN, TRACK)) {
            throw new IllegalArgumentException("time, shift or kind is out of its bounds");
        }
        if (net.arcs >= MOST_ARCS) {
            throw new IllegalStateException("there are 36 arcs");
        }
        int number = net.addArc(from, to, time, shift, kind);
        if (!order.sort(net)) {
            net.removeLastArc();
            throw new IllegalStateException("live arcs with a shift of 0 would make a ring");
        }
        return number;
    }

    public int riders(int arc, int riders, boolean isLoose)
            throws IndexOutOfBoundsException, IllegalArgumentException, IllegalStateException {
        if (!net.hasArc(arc)) {
            throw new IndexOutOfBoundsException("no such arc");
        }
        if (isOutside(riders, 0, MOST_RIDERS)) {
            throw new IllegalArgumentException("riders is not 0 to 99");
        }
        Arc connection = net.arc[arc];
        if (connection.kind != CONNECTION) {
            throw new IllegalStateException("the arc is no connection");
        }
        if (isLoose && !connection.loose && net.countLoose() >= MOST_LOOSE) {
            throw new IllegalStateException("4 connections may be broken already");
        }
        connection.riders = riders;
        connection.loose = isLoose;
        net.version++;
        return net.countLoose();
    }

    public int pair(int one, int other)
            throws IndexOutOfBoundsException, IllegalArgumentException, IllegalStateException {
        if (!net.hasArc(one) || !net.hasArc(other)) {
            throw new IndexOutOfBoundsException("no such arc");
        }
        if (one == other) {
            throw new IllegalArgumentException("both arcs are the same");
        }
        if (!net.arc[one].canBePaired() || !net.arc[other].canBePaired()) {
            throw new IllegalStateException("an arc is no track, or is in a pair");
        }
        if (net.pairs >= MOST_PAIRS) {
            throw new IllegalStateException("there are 3 pairs");
        }
        return net.addPair(one, other);
    }

    public boolean live(int arc, boolean isLive)
            throws IndexOutOfBoundsException, IllegalStateException {
        if (!net.hasArc(arc)) {
            throw new IndexOutOfBoundsException("no such arc");
        }
        boolean before = net.arc[arc].live;
        if (isLive && !before) {
            if (!revive(net.arc[arc])) {
                throw new IllegalStateException("live arcs with a shift of 0 would make a ring");
            }
        } else {
            net.arc[arc].live = isLive;
        }
        net.version++;
        return before;
    }

    public int make() throws IllegalStateException {
        if (net.departures == 0) {
            throw new IllegalStateException("there is no departure");
        }
        int greatest = timetable.layOut(net, net.period);
        if (greatest != NONE) {
            System.arraycopy(timetable.made, 0, net.offset, 0, net.departures);
            net.version++;
        }
        return greatest;
    }

    public int lay(int lines, int seed) throws IllegalArgumentException, IllegalStateException {
        if (isOutside(lines, 1, 4) || isOutside(seed, 0, MOST_SEED)) {
            throw new IllegalArgumentException("lines is not 1 to 4, or seed not 0 to 99");
        }
        if (net.departures > 0) {
            throw new IllegalStateException("there is a departure");
        }
        // Four lines of three DEPARTURES and ARCS and three CONNECTIONS at most: there is room for all of it.
        Row row = new Row(seed);
        int[] first = new int[lines];
        int[] last = new int[lines];
        for (int line = 0; line < lines; line++) {
            first[line] = net.departures;
            layLine(row, line);
            last[line] = net.departures - 1;
        }
        for (int line = 1; line < lines; line++) {
            layConnection(row, first[line - 1], last[line]);
        }
        return net.arcs;
    }

    // ---- a day

    public int horizon(int turns) throws IllegalArgumentException {
        if (isOutside(turns, 1, MOST_TURNS)) {
            throw new IllegalArgumentException("turns is not 1 to 12");
        }
        int before = net.turns;
        for (int turn = turns; turn < before; turn++) {
            Arrays.fill(net.lateness[turn], 0);
        }
        net.turns = turns;
        net.version++;
        return before;
    }

    public int delay(int departure, int turn, int minutes)
            throws IndexOutOfBoundsException, IllegalArgumentException {
        if (!net.hasDeparture(departure) || !net.hasTurn(turn)) {
            throw new IndexOutOfBoundsException("no such departure or turn");
        }
        if (isOutside(minutes, 0, MOST_LATENESS)) {
            throw new IllegalArgumentException("minutes is not 0 to 500");
        }
        int before = net.lateness[turn][departure];
        net.lateness[turn][departure] = minutes;
        net.version++;
        return before;
    }

    public int clear() {
        int some = 0;
        for (int turn = 0; turn < net.turns; turn++) {
            for (int departure = 0; departure < net.departures; departure++) {
                if (net.lateness[turn][departure] > 0) {
                    some++;
                }
                net.lateness[turn][departure] = 0;
            }
        }
        net.version++;
        return some;
    }

    public int storm(int seed, int most) throws IllegalArgumentException {
        if (isOutside(seed, 0, MOST_SEED) || isOutside(most, 1, 100)) {
            throw new IllegalArgumentException("seed is not 0 to 99, or most not 1 to 100");
        }
        Row row = new Row(seed);
        for (int turn = 0; turn < net.turns; turn++) {
            for (int departure = 0; departure < net.departures; departure++) {
                boolean isHit = row.draw() % 8 == 0;
                net.lateness[turn][departure] = isHit ? row.draw() % (most + 1) : 0;
            }
        }
        net.version++;
        return net.sumLateness();
    }

    public int decide() {
        choices.search(net);
        choices.put(net, choices.number);
        net.version++;
        return choices.changes;
    }

    // ---- what is asked of the net

    public int ofDeparture(int departure, int what)
            throws IndexOutOfBoundsException, IllegalArgumentException {
        if (!net.hasDeparture(departure)) {
            throw new IndexOutOfBoundsException("no such departure");
        }
        switch (what) {
            case 0:
                return net.line[departure];
            case 1:
                return net.offset[departure];
            case 2:
                return net.weight[departure];
            case 3:
                return net.countArcsTo(departure);
            case 4:
                return net.countArcsFrom(departure);
            case 5:
                return rings.of(net, order, flow).critical >> departure & 1;
            case 6:
                today();
                return blame.minutes[departure];
            case 7:
                return today().lateOf(net, departure);
            default:
                throw new IllegalArgumentException("what is not 0 to 7");
        }
    }

    public int ofArc(int arc, int what) throws IndexOutOfBoundsException, IllegalArgumentException {
        if (!net.hasArc(arc)) {
            throw new IndexOutOfBoundsException("no such arc");
        }
        Arc asked = net.arc[arc];
        switch (what) {
            case 0:
                return asked.from;
            case 1:
                return asked.to;
            case 2:
                return asked.time;
            case 3:
                return asked.shift;
            case 4:
                return asked.kind;
            case 5:
                return asked.riders;
            case 6:
                return asked.live ? 1 : 0;
            case 7:
                return net.slack(asked);
            case 8:
                return asked.loose ? 1 : 0;
            case 9:
                return asked.partner;
            default:
                throw new IllegalArgumentException("what is not 0 to 9");
        }
    }

    public int rings(int what) throws IllegalArgumentException {
        if (isOutside(what, 0, 6)) {
            throw new IllegalArgumentException("what is not 0 to 6");
        }
        Rings now = rings.of(net, order, flow);
        switch (what) {
            case 0:
                return now.above;
            case 1:
                return now.under;
            case 2:
                return Math.floorDiv(net.period * now.under - now.above, now.under);
            case 3:
                return now.above < net.period * now.under ? 1 : 0;
            case 4:
                return net.holds() ? 1 : 0;
            case 5:
                return now.critical;
            default:
                return -Math.floorDiv(-now.above, now.under);
        }
    }

    public int healing(int from, int to) throws IndexOutOfBoundsException {
        if (!net.hasDeparture(from) || !net.hasDeparture(to)) {
            throw new IndexOutOfBoundsException("no such departure");
        }
        timetable.heal(net, from);
        return timetable.healing[to];
    }

    public int feels(int departure, int delay)
            throws IndexOutOfBoundsException, IllegalArgumentException {
        if (!net.hasDeparture(departure)) {
            throw new IndexOutOfBoundsException("no such departure");
        }
        if (isOutside(delay, 1, MOST_LATENESS)) {
            throw new IllegalArgumentException("delay is not 1 to 500");
        }
        timetable.heal(net, departure);
        int set = 0;
        for (int reached = 0; reached < net.departures; reached++) {
            int healing = timetable.healing[reached];
            if (healing != NONE && healing < delay) {
                set |= 1 << reached;
            }
        }
        return set;
    }

    public int free(int departure, int turn)
            throws IndexOutOfBoundsException, IllegalArgumentException {
        if (!net.hasDeparture(departure)) {
            throw new IndexOutOfBoundsException("no such departure");
        }
        if (isOutside(turn, 0, MOST_FREE_TURN)) {
            throw new IllegalArgumentException("turn is not 0 to 30");
        }
        order.sort(net);
        flow.fill(turn + 1, 0);
        Flow.spread(flow.at, net, order, turn + 1);
        return flow.at[turn][departure];
    }

    public int power(int from, int to, int steps)
            throws IndexOutOfBoundsException, IllegalArgumentException {
        if (!net.hasDeparture(from) || !net.hasDeparture(to)) {
            throw new IndexOutOfBoundsException("no such departure");
        }
        if (isOutside(steps, 0, MOST_STEPS)) {
            throw new IllegalArgumentException("steps is not 0 to 30");
        }
        return flow.walk(net, from, to, steps);
    }

    // ---- what is asked of a day

    public int at(int departure, int turn, int what)
            throws IndexOutOfBoundsException, IllegalArgumentException {
        if (!net.hasDeparture(departure) || !net.hasTurn(turn)) {
            throw new IndexOutOfBoundsException("no such departure or turn");
        }
        if (isOutside(what, 0, 5)) {
            throw new IllegalArgumentException("what is not 0 to 5");
        }
        int late = today().late[turn][departure];
        switch (what) {
            case 0:
                return net.plan(departure, turn);
            case 1:
                return day.real[turn][departure];
            case 2:
                return late;
            case 3:
                return net.lateness[turn][departure];
            case 4:
                return late > 0 ? blame.rootDeparture[turn][departure] : NONE;
            default:
                return late > 0 ? blame.rootTurn[turn][departure] : NONE;
        }
    }

    public int day(int what) throws IllegalArgumentException {
        switch (what) {
            case 0:
                return today().cost(net);
            case 1:
                return today().total;
            case 2:
                return today().settles(net);
            case 3:
                return today().countLate(net);
            case 4:
                return today().greatestLate(net);
            case 5:
                return net.turns;
            case 6:
                return net.countBroken();
            case 7:
                return net.sumLateness();
            default:
                throw new IllegalArgumentException("what is not 0 to 7");
        }
    }

    public String board(int departure) throws IndexOutOfBoundsException {
        if (!net.hasDeparture(departure)) {
            throw new IndexOutOfBoundsException("no such departure");
        }
        Day shown = today();
        StringBuilder text = new StringBuilder();
        for (int turn = 0; turn < net.turns; turn++) {
            if (turn > 0) {
                text.append(' ');
            }
            text.append(shown.real[turn][departure]);
            if (shown.late[turn][departure] > 0) {
                text.append('+').append(shown.late[turn][departure]);
            }
        }
        return text.toString();
    }

    public int ride(int from, int turn, int to) throws IndexOutOfBoundsException {
        if (!net.hasDeparture(from) || !net.hasDeparture(to) || !net.hasTurn(turn)) {
            throw new IndexOutOfBoundsException("no such departure or turn");
        }
        Day ridden = today();
        travel.reachFrom(net, ridden, from, turn);
        return travel.arrival(net, ridden, to);
    }

    public int ofLine(int line, int what)
            throws IndexOutOfBoundsException, IllegalArgumentException {
        if (isOutside(line, 0, MOST_LINES - 1)) {
            throw new IndexOutOfBoundsException("line is not 0 to 5");
        }
        if (isOutside(what, 0, 3)) {
            throw new IllegalArgumentException("what is not 0 to 3");
        }
        Day now = today();
        int answer = 0;
        for (int departure = 0; departure < net.departures; departure++) {
            if (net.line[departure] != line) {
                continue;
            }
            if (what == 0) {
                answer++;
            } else if (what == 1) {
                answer += blame.minutes[departure];
            } else if (what == 2) {
                answer += now.lateOf(net, departure);
            } else {
                answer = Math.max(answer, now.greatestLateOf(net, departure));
            }
        }
        return answer;
    }

    public int crews(int rest) throws IllegalArgumentException {
        if (isOutside(rest, 0, 100)) {
            throw new IllegalArgumentException("rest is not 0 to 100");
        }
        return travel.countCrews(net, today(), rest);
    }

    // ---- what would be

    public int best(int what) throws IllegalArgumentException {
        if (isOutside(what, 0, 2)) {
            throw new IllegalArgumentException("what is not 0 to 2");
        }
        choices.search(net);
        if (what == 0) {
            return choices.cost;
        }
        return what == 1 ? choices.number : choices.changes;
    }

    public int without(int arc) throws IndexOutOfBoundsException {
        if (!net.hasArc(arc)) {
            throw new IndexOutOfBoundsException("no such arc");
        }
        boolean before = net.arc[arc].live;
        net.arc[arc].live = false;
        runTrial();
        int cost = trial.cost(net);
        net.arc[arc].live = before;
        return cost;
    }

    public int wave(int departure, int turn, int minutes)
            throws IndexOutOfBoundsException, IllegalArgumentException {
        if (!net.hasDeparture(departure) || !net.hasTurn(turn)) {
            throw new IndexOutOfBoundsException("no such departure or turn");
        }
        if (isOutside(minutes, 0, MOST_LATENESS)) {
            throw new IllegalArgumentException("minutes is not 0 to 500");
        }
        int total = today().total;
        int before = net.lateness[turn][departure];
        net.lateness[turn][departure] = minutes;
        runTrial();
        net.lateness[turn][departure] = before;
        return trial.total - total;
    }

    public int wouldMake(int period) throws IllegalArgumentException, IllegalStateException {
        if (isOutside(period, 1, MOST_PERIOD)) {
            throw new IllegalArgumentException("period is not 1 to 500");
        }
        if (net.departures == 0) {
            throw new IllegalStateException("there is no departure");
        }
        return timetable.layOut(net, period);
    }

    public int heals(int budget) throws IllegalArgumentException {
        if (isOutside(budget, 1, 100)) {
            throw new IllegalArgumentException("budget is not 1 to 100");
        }
        int least = today().total;
        int healer = NONE;
        for (int number = 0; number < net.arcs; number++) {
            Arc arc = net.arc[number];
            if (!arc.live) {
                continue;
            }
            int before = arc.time;
            arc.time = Math.max(0, before - budget);
            runTrial();
            arc.time = before;
            if (trial.total < least) {
                least = trial.total;
                healer = number;
            }
        }
        return healer;
    }

    public boolean isSound() {
        Day now = today();
        int minutes = 0;
        for (int departure = 0; departure < net.departures; departure++) {
            minutes += blame.minutes[departure];
        }
        if (minutes != now.total || now.isAheadOfPlan(net) || net.hasPairWithBothLive()) {
            return false;
        }
        if (!net.holds()) {
            return true;
        }
        boolean isQuiet = net.sumLateness() > 0 || now.countLate(net) == 0;
        return isQuiet && rings(2) >= 0;
    }

    public long digest() {
        long d = mix(58285, net.period);
        for (int what = 0; what <= 6; what++) {
            d = mix(d, rings(what));
        }
        for (int what = 0; what <= 7; what++) {
            d = mix(d, day(what));
        }
        for (int departure = 0; departure < net.departures; departure++) {
            d = mixDeparture(d, departure);
        }
        for (int arc = 0; arc < net.arcs; arc++) {
            d = mix(d, ofArc(arc, 6));
            d = mix(d, ofArc(arc, 7));
            d = mix(d, ofArc(arc, 9));
        }
        for (int line = 0; line < MOST_LINES; line++) {
            for (int what = 0; what <= 3; what++) {
                d = mix(d, ofLine(line, what));
            }
        }
        return mix(d, isSound() ? 1 : 0);
    }

    private long mixDeparture(long before, int departure) {
        long d = before;
        for (int what = 0; what <= 7; what++) {
            d = mix(d, ofDeparture(departure, what));
        }
        d = mix(d, free(departure, 5));
        d = mix(d, healing(departure, 0));
        for (int turn = 0; turn < net.turns; turn++) {
            d = mix(d, at(departure, turn, 1));
            d = mix(d, at(departure, turn, 4));
            d = mix(d, at(departure, turn, 5));
        }
        return d;
    }

    private static long mix(long d, int v) {
        return d * 31 + v;
    }

    private static boolean isOutside(int number, int least, int most) {
        return number < least || number > most;
    }

    /** Lets a BROKEN arc be LIVE in place of its partner; if that makes a ring, all stays as it was. */
    private boolean revive(Arc arc) {
        Arc partner = net.hasArc(arc.partner) ? net.arc[arc.partner] : null;
        boolean wasPartnerLive = partner != null && partner.live;
        arc.live = true;
        if (partner != null) {
            partner.live = false;
        }
        if (order.sort(net)) {
            return true;
        }
        arc.live = false;
        if (partner != null) {
            partner.live = wasPartnerLive;
        }
        return false;
    }

    private void layLine(Row row, int line) {
        int stops = 2 + row.draw() % 2;
        int first = net.departures;
        for (int stop = 0; stop < stops; stop++) {
            int offset = row.draw() % net.period;
            int weight = 1 + row.draw() % 5;
            net.addDeparture(line, offset, weight);
        }
        int last = net.departures - 1;
        for (int stop = first; stop < last; stop++) {
            net.addArc(stop, stop + 1, 10 + row.draw() % 20, 0, RUN);
        }
        net.addArc(last, first, 10 + row.draw() % 30, 1, STOCK);
    }

    private void layConnection(Row row, int from, int to) {
        int time = 2 + row.draw() % 5;
        int shift = row.draw() % 2;
        int number = net.addArc(from, to, time, shift, CONNECTION);
        net.arc[number].riders = row.draw() % 50;
    }

    /** Works out the day and its blame, if the net was changed since. */
    private Day today() {
        if (dayVersion != net.version) {
            order.sort(net);
            day.run(net, order);
            blame.trace(net, order, day);
            dayVersion = net.version;
        }
        return day;
    }

    /** Runs a day of the net as it stands in the midst of a question, beside the day that is kept. */
    private void runTrial() {
        order.sort(net);
        trial.run(net, order);
    }

    /** An arc; all of them are made with the net, and filled as they are told. */
    static final class Arc {
        int from;
        int to;
        int time;
        int shift;
        int kind;
        int riders;
        boolean loose;
        boolean live;
        // The number of the other arc of its pair.
        int partner;

        void tell(int from, int to, int time, int shift, int kind) {
            this.from = from;
            this.to = to;
            this.time = time;
            this.shift = shift;
            this.kind = kind;
            riders = 0;
            loose = false;
            live = true;
            partner = NONE;
        }

        boolean canBePaired() {
            return kind == TRACK && partner == NONE;
        }
    }

    /** What has been told: the net, the pairs, the lateness. */
    static final class Net {
        int period = 60;
        int turns = 6;
        int departures = 0;
        int arcs = 0;
        int pairs = 0;
        // Counts the changes, so that what was worked out before one of them is known as stale.
        int version = 0;
        final int[] line = new int[MOST_DEPARTURES];
        final int[] offset = new int[MOST_DEPARTURES];
        final int[] weight = new int[MOST_DEPARTURES];
        final int[][] lateness = new int[MOST_TURNS][MOST_DEPARTURES];
        final Arc[] arc = new Arc[MOST_ARCS];
        final int[] pairOne = new int[MOST_PAIRS];
        final int[] pairOther = new int[MOST_PAIRS];

        Net() {
            for (int number = 0; number < MOST_ARCS; number++) {
                arc[number] = new Arc();
            }
        }

        boolean hasDeparture(int number) {
            return number >= 0 && number < departures;
        }

        boolean hasArc(int number) {
            return number >= 0 && number < arcs;
        }

        boolean hasTurn(int turn) {
            return turn >= 0 && turn < turns;
        }

        int addDeparture(int itsLine, int itsOffset, int itsWeight) {
            line[departures] = itsLine;
            offset[departures] = itsOffset;
            weight[departures] = itsWeight;
            version++;
            return departures++;
        }

        int addArc(int from, int to, int time, int shift, int kind) {
            arc[arcs].tell(from, to, time, shift, kind);
            version++;
            return arcs++;
        }

        void removeLastArc() {
            arcs--;
            version++;
        }

        int addPair(int one, int other) {
            arc[one].partner = other;
            arc[other].partner = one;
            if (arc[one].live) {
                arc[other].live = false;
            }
            pairOne[pairs] = one;
            pairOther[pairs] = other;
            version++;
            return pairs++;
        }

        int plan(int departure, int turn) {
            return offset[departure] + turn * period;
        }

        int slack(Arc asked) {
            return offset[asked.to] + asked.shift * period - offset[asked.from] - asked.time;
        }

        boolean holds() {
            for (int number = 0; number < arcs; number++) {
                if (arc[number].live && slack(arc[number]) < 0) {
                    return false;
                }
            }
            return true;
        }

        int countArcsTo(int departure) {
            int count = 0;
            for (int number = 0; number < arcs; number++) {
                if (arc[number].live && arc[number].to == departure) {
                    count++;
                }
            }
            return count;
        }

        int countArcsFrom(int departure) {
            int count = 0;
            for (int number = 0; number < arcs; number++) {
                if (arc[number].live && arc[number].from == departure) {
                    count++;
                }
            }
            return count;
        }

        int countLoose() {
            int count = 0;
            for (int number = 0; number < arcs; number++) {
                if (arc[number].loose) {
                    count++;
                }
            }
            return count;
        }

        int countBroken() {
            int count = 0;
            for (int number = 0; number < arcs; number++) {
                if (!arc[number].live) {
                    count++;
                }
            }
            return count;
        }

        /** What the riders of BROKEN connections add to COST; only connections have riders. */
        int costOfBroken() {
            int riders = 0;
            for (int number = 0; number < arcs; number++) {
                if (!arc[number].live) {
                    riders += arc[number].riders;
                }
            }
            return riders * period * turns;
        }

        int sumLateness() {
            int sum = 0;
            for (int turn = 0; turn < turns; turn++) {
                for (int departure = 0; departure < departures; departure++) {
                    sum += lateness[turn][departure];
                }
            }
            return sum;
        }

        boolean hasPairWithBothLive() {
            for (int pair = 0; pair < pairs; pair++) {
                if (arc[pairOne[pair]].live && arc[pairOther[pair]].live) {
                    return true;
                }
            }
            return false;
        }
    }

    /** The row of numbers that a seed begins. */
    static final class Row {
        private int last;

        Row(int seed) {
            last = seed;
        }

        int draw() {
            last = (53 * last + 37) % 113;
            return last;
        }
    }

    /** The departures and the LIVE arcs with a SHIFT of 0, in an order in which none waits for a later one. */
    static final class Order {
        final int[] departures = new int[MOST_DEPARTURES];
        final int[] arcs = new int[MOST_ARCS];
        int arcCount = 0;
        private final int[] waits = new int[MOST_DEPARTURES];

        /** Returns false if those arcs make a ring (there is no such order then). */
        boolean sort(Net net) {
            countWaits(net);
            int sorted = 0;
            for (int departure = 0; departure < net.departures; departure++) {
                if (waits[departure] == 0) {
                    departures[sorted++] = departure;
                }
            }
            arcCount = 0;
            for (int next = 0; next < sorted && next < net.departures; next++) {
                sorted = release(net, departures[next], sorted);
            }
            return sorted == net.departures;
        }

        private void countWaits(Net net) {
            Arrays.fill(waits, 0);
            for (int number = 0; number < net.arcs; number++) {
                Arc arc = net.arc[number];
                if (arc.live && arc.shift == 0) {
                    waits[arc.to]++;
                }
            }
        }

        private int release(Net net, int departure, int sortedBefore) {
            int sorted = sortedBefore;
            for (int number = 0; number < net.arcs; number++) {
                Arc arc = net.arc[number];
                if (!arc.live || arc.shift != 0 || arc.from != departure || arcCount >= MOST_ARCS) {
                    continue;
                }
                arcs[arcCount++] = number;
                waits[arc.to]--;
                if (waits[arc.to] == 0 && sorted < MOST_DEPARTURES) {
                    departures[sorted++] = arc.to;
                }
            }
            return sorted;
        }
    }

    /**
     * Numbers that run along LIVE arcs, TURN by TURN, the greatest one deciding. What they begin with
     * is the caller's: FREE times begin at 0, ways from a departure only at that one.
     */
    static final class Flow {
        final int[][] at = new int[MOST_FREE_TURN + 1][MOST_DEPARTURES];

        void fill(int turns, int number) {
            for (int turn = 0; turn < turns && turn < at.length; turn++) {
                Arrays.fill(at[turn], number);
            }
        }

        static void spread(int[][] at, Net net, Order order, int turns) {
            for (int turn = 0; turn < turns && turn < at.length; turn++) {
                for (int number = 0; number < net.arcs; number++) {
                    Arc arc = net.arc[number];
                    if (arc.live && arc.shift > 0 && arc.shift <= turn) {
                        raise(at[turn], arc, at[turn - arc.shift]);
                    }
                }
                for (int next = 0; next < order.arcCount; next++) {
                    raise(at[turn], net.arc[order.arcs[next]], at[turn]);
                }
            }
        }

        /** The greatest sum of TIMES by so many arcs; a row of the table is a number of arcs here. */
        int walk(Net net, int from, int to, int steps) {
            fill(steps + 1, UNREACHED);
            at[0][from] = 0;
            for (int step = 1; step <= steps; step++) {
                for (int number = 0; number < net.arcs; number++) {
                    if (net.arc[number].live) {
                        raise(at[step], net.arc[number], at[step - 1]);
                    }
                }
            }
            return at[steps][to] < 0 ? NONE : at[steps][to];
        }

        private static void raise(int[] row, Arc arc, int[] rowBefore) {
            int come = rowBefore[arc.from] + arc.time;
            if (come > row[arc.to]) {
                row[arc.to] = come;
            }
        }
    }

    /** LEAST PERIOD and the CRITICAL departures. */
    static final class Rings {
        int above = 0;
        // What is divided by: never below 1, as no RING has fewer SHIFTS.
        int under = 1;
        int critical = 0;
        private int version = NONE;

        Rings of(Net net, Order order, Flow flow) {
            if (version != net.version) {
                order.sort(net);
                search(net, order, flow);
                version = net.version;
            }
            return this;
        }

        /**
         * Takes for each departure the longest ways back to it by 1, 2, .. SHIFTS together. Such a way
         * may pass a departure twice, but then it falls into RINGS of which none has a greater MEAN than
         * the greatest, so the greatest MEAN and the departures that have it are those of RINGS.
         */
        private void search(Net net, Order order, Flow flow) {
            above = 0;
            under = 1;
            critical = 0;
            int mostShifts = MOST_SHIFT * net.departures;
            for (int departure = 0; departure < net.departures; departure++) {
                flow.fill(mostShifts + 1, UNREACHED);
                flow.at[0][departure] = 0;
                Flow.spread(flow.at, net, order, mostShifts + 1);
                for (int shifts = 1; shifts <= mostShifts; shifts++) {
                    if (flow.at[shifts][departure] >= 0) {
                        consider(departure, flow.at[shifts][departure], shifts);
                    }
                }
            }
            shorten();
        }

        private void consider(int departure, int times, int shifts) {
            int difference = times * under - above * shifts;
            if (difference > 0) {
                above = times;
                under = shifts;
                critical = 0;
            }
            if (difference >= 0) {
                critical |= 1 << departure;
            }
        }

        private void shorten() {
            for (int divisor = under; divisor > 1; divisor--) {
                if (above % divisor == 0 && under % divisor == 0) {
                    above /= divisor;
                    under /= divisor;
                }
            }
        }
    }

    /** What SLACK tells: the least OFFSETS of a timetable, and HEALING. */
    static final class Timetable {
        final int[] made = new int[MOST_DEPARTURES];
        final int[] healing = new int[MOST_DEPARTURES];

        /** Works out the least OFFSETS by a PERIOD; returns the greatest of them, or NONE. */
        int layOut(Net net, int period) {
            Arrays.fill(made, 0);
            boolean isSettled = false;
            // The longest way without a ring has fewer arcs than there are departures.
            for (int round = 0; round <= net.departures && !isSettled; round++) {
                isSettled = !raiseAll(net, period);
            }
            int greatest = 0;
            for (int departure = 0; departure < net.departures; departure++) {
                greatest = Math.max(greatest, made[departure]);
            }
            return isSettled && greatest <= MOST_OFFSET ? greatest : NONE;
        }

        private boolean raiseAll(Net net, int period) {
            boolean isRaised = false;
            for (int number = 0; number < net.arcs; number++) {
                Arc arc = net.arc[number];
                int least = made[arc.from] + arc.time - arc.shift * period;
                if (arc.live && made[arc.to] < least) {
                    made[arc.to] = least;
                    isRaised = true;
                }
            }
            return isRaised;
        }

        /** Works out HEALING from a departure to all. */
        void heal(Net net, int from) {
            Arrays.fill(healing, NONE);
            if (!net.holds()) {
                return;
            }
            healing[from] = 0;
            for (int round = 1; round < net.departures; round++) {
                for (int number = 0; number < net.arcs; number++) {
                    if (net.arc[number].live) {
                        healAlong(net, net.arc[number]);
                    }
                }
            }
        }

        private void healAlong(Net net, Arc arc) {
            if (healing[arc.from] == NONE) {
                return;
            }
            int sum = healing[arc.from] + net.slack(arc);
            if (healing[arc.to] == NONE || sum < healing[arc.to]) {
                healing[arc.to] = sum;
            }
        }
    }

    /** A day of the net: REAL and LATE of its TURNS. */
    static final class Day {
        final int[][] real = new int[MOST_TURNS][MOST_DEPARTURES];
        final int[][] late = new int[MOST_TURNS][MOST_DEPARTURES];
        // LATE of all TURNS together.
        int total = 0;

        void run(Net net, Order order) {
            for (int turn = 0; turn < net.turns; turn++) {
                for (int departure = 0; departure < net.departures; departure++) {
                    real[turn][departure] = net.plan(departure, turn) + net.lateness[turn][departure];
                }
            }
            Flow.spread(real, net, order, net.turns);
            total = 0;
            for (int turn = 0; turn < net.turns; turn++) {
                for (int departure = 0; departure < net.departures; departure++) {
                    late[turn][departure] = real[turn][departure] - net.plan(departure, turn);
                    total += late[turn][departure];
                }
            }
        }

        int cost(Net net) {
            int cost = net.costOfBroken();
            for (int departure = 0; departure < net.departures; departure++) {
                cost += net.weight[departure] * lateOf(net, departure);
            }
            return cost;
        }

        int lateOf(Net net, int departure) {
            int sum = 0;
            for (int turn = 0; turn < net.turns; turn++) {
                sum += late[turn][departure];
            }
            return sum;
        }

        int greatestLateOf(Net net, int departure) {
            int greatest = 0;
            for (int turn = 0; turn < net.turns; turn++) {
                greatest = Math.max(greatest, late[turn][departure]);
            }
            return greatest;
        }

        int greatestLate(Net net) {
            int greatest = 0;
            for (int departure = 0; departure < net.departures; departure++) {
                greatest = Math.max(greatest, greatestLateOf(net, departure));
            }
            return greatest;
        }

        int settles(Net net) {
            int settled = 0;
            for (int turn = 0; turn < net.turns; turn++) {
                if (countLateIn(net, turn) > 0) {
                    settled = turn + 1;
                }
            }
            return settled;
        }

        int countLate(Net net) {
            int count = 0;
            for (int turn = 0; turn < net.turns; turn++) {
                count += countLateIn(net, turn);
            }
            return count;
        }

        private int countLateIn(Net net, int turn) {
            int count = 0;
            for (int departure = 0; departure < net.departures; departure++) {
                if (late[turn][departure] > 0) {
                    count++;
                }
            }
            return count;
        }

        boolean isAheadOfPlan(Net net) {
            for (int turn = 0; turn < net.turns; turn++) {
                for (int departure = 0; departure < net.departures; departure++) {
                    if (late[turn][departure] < 0) {
                        return true;
                    }
                }
            }
            return false;
        }
    }

    /** Whose fault LATE is: the ROOT of each TURN, and the MINUTES of each departure. */
    static final class Blame {
        final int[][] rootDeparture = new int[MOST_TURNS][MOST_DEPARTURES];
        final int[][] rootTurn = new int[MOST_TURNS][MOST_DEPARTURES];
        final int[] minutes = new int[MOST_DEPARTURES];

        void trace(Net net, Order order, Day day) {
            Arrays.fill(minutes, 0);
            for (int turn = 0; turn < net.turns; turn++) {
                for (int next = 0; next < net.departures; next++) {
                    int departure = order.departures[next];
                    findRoot(net, day, departure, turn);
                    minutes[rootDeparture[turn][departure]] += day.late[turn][departure];
                }
            }
        }

        /** The order of the departures has found the ROOT of the TURN that is to blame before. */
        private void findRoot(Net net, Day day, int departure, int turn) {
            rootDeparture[turn][departure] = departure;
            rootTurn[turn][departure] = turn;
            if (net.lateness[turn][departure] == day.late[turn][departure]) {
                return;
            }
            Arc decider = findDecider(net, day, departure, turn);
            if (decider != null) {
                int turnBefore = turn - decider.shift;
                rootDeparture[turn][departure] = rootDeparture[turnBefore][decider.from];
                rootTurn[turn][departure] = rootTurn[turnBefore][decider.from];
            }
        }

        private static Arc findDecider(Net net, Day day, int departure, int turn) {
            for (int number = 0; number < net.arcs; number++) {
                Arc arc = net.arc[number];
                if (arc.live && arc.to == departure && arc.shift <= turn
                        && day.real[turn - arc.shift][arc.from] + arc.time == day.real[turn][departure]) {
                    return arc;
                }
            }
            return null;
        }
    }

    /** The search for the BEST CHOICE. */
    static final class Choices {
        private static final int PAIR_BIT = 1 << MOST_LOOSE;
        private static final int NUMBERS = PAIR_BIT << MOST_PAIRS;

        int cost = 0;
        int number = 0;
        int changes = 0;
        private int version = NONE;
        // The bits of a number that stand for something that can be chosen.
        private int open = 0;
        private final int[] loose = new int[MOST_LOOSE];
        private int looseCount = 0;
        private final boolean[] wasLive = new boolean[MOST_ARCS];
        private final Order order = new Order();
        private final Day day = new Day();

        /** Finds it; all arcs are then as they were before. */
        void search(Net net) {
            if (version == net.version) {
                return;
            }
            version = net.version;
            listOpen(net);
            boolean isFirst = true;
            for (int tried = 0; tried < NUMBERS; tried++) {
                if ((tried & open) == tried) {
                    put(net, tried);
                    if (order.sort(net)) {
                        day.run(net, order);
                        consider(net, tried, isFirst);
                        isFirst = false;
                    }
                }
            }
            for (int arc = 0; arc < net.arcs; arc++) {
                net.arc[arc].live = wasLive[arc];
            }
        }

        /** Does a choice of which the last search has found that it is open. */
        void put(Net net, int chosen) {
            for (int n = 0; n < looseCount; n++) {
                net.arc[loose[n]].live = (chosen >> n & 1) == 0;
            }
            for (int pair = 0; pair < net.pairs; pair++) {
                if ((open & PAIR_BIT << pair) != 0) {
                    boolean isOther = (chosen & PAIR_BIT << pair) != 0;
                    net.arc[net.pairOne[pair]].live = !isOther;
                    net.arc[net.pairOther[pair]].live = isOther;
                }
            }
        }

        private void listOpen(Net net) {
            looseCount = 0;
            for (int arc = 0; arc < net.arcs; arc++) {
                wasLive[arc] = net.arc[arc].live;
                if (net.arc[arc].loose && looseCount < MOST_LOOSE) {
                    loose[looseCount++] = arc;
                }
            }
            open = (1 << looseCount) - 1;
            for (int pair = 0; pair < net.pairs; pair++) {
                if (wasLive[net.pairOne[pair]] || wasLive[net.pairOther[pair]]) {
                    open |= PAIR_BIT << pair;
                }
            }
        }

        private void consider(Net net, int tried, boolean isFirst) {
            int itsCost = day.cost(net);
            int itsChanges = 0;
            for (int arc = 0; arc < net.arcs; arc++) {
                if (net.arc[arc].live != wasLive[arc]) {
                    itsChanges++;
                }
            }
            if (isFirst || itsCost < cost || itsCost == cost && itsChanges < changes) {
                cost = itsCost;
                number = tried;
                changes = itsChanges;
            }
        }
    }

    /** Those who ride, and the crews. */
    static final class Travel {
        private final int[][] reached = new int[MOST_TURNS][MOST_DEPARTURES];
        private final int[] queueDeparture = new int[MOST_TURNS * MOST_DEPARTURES];
        private final int[] queueTurn = new int[MOST_TURNS * MOST_DEPARTURES];
        private int queued = 0;
        private final int[] begins = new int[MOST_TURNS];

        /** Marks all TURNS that one can come to. */
        void reachFrom(Net net, Day day, int from, int turn) {
            for (int row = 0; row < MOST_TURNS; row++) {
                Arrays.fill(reached[row], 0);
            }
            queued = 0;
            reach(from, turn);
            for (int next = 0; next < queued && next < queueTurn.length; next++) {
                for (int number = 0; number < net.arcs; number++) {
                    Arc arc = net.arc[number];
                    if (arc.from == queueDeparture[next]) {
                        follow(net, day, arc, queueTurn[next]);
                    }
                }
            }
        }

        private void reach(int departure, int turn) {
            if (reached[turn][departure] == 0 && queued < queueTurn.length) {
                reached[turn][departure] = 1;
                queueDeparture[queued] = departure;
                queueTurn[queued] = turn;
                queued++;
            }
        }

        private void follow(Net net, Day day, Arc arc, int turn) {
            boolean isOpen = arc.kind == CONNECTION || arc.kind == RUN && arc.live;
            int next = turn + arc.shift;
            if (isOpen && net.hasTurn(next) && !arc.live
                    && day.real[next][arc.to] < day.real[turn][arc.from] + arc.time) {
                next++;
            }
            if (isOpen && net.hasTurn(next)) {
                reach(arc.to, next);
            }
        }

        int arrival(Net net, Day day, int to) {
            int least = NONE;
            for (int turn = 0; turn < net.turns; turn++) {
                if (reached[turn][to] == 1 && (least == NONE || day.real[turn][to] < least)) {
                    least = day.real[turn][to];
                }
            }
            return least;
        }

        /** One for each RUN and TURN, less one for each that another one's crew goes on to. */
        int countCrews(Net net, Day day, int rest) {
            int crews = 0;
            for (int departure = 0; departure < net.departures; departure++) {
                int leaving = countRunsFrom(net, departure);
                crews += leaving * net.turns - countGoingOn(net, day, departure, leaving, rest);
            }
            return crews;
        }

        private static int countRunsFrom(Net net, int departure) {
            int count = 0;
            for (int number = 0; number < net.arcs; number++) {
                Arc arc = net.arc[number];
                if (arc.live && arc.kind == RUN && arc.from == departure) {
                    count++;
                }
            }
            return count;
        }

        /**
         * Who can go on to a RUN can go on to each later one from the same departure too, so the most
         * go on if each one that begins, the sooner first, takes any crew that is ready.
         */
        private int countGoingOn(Net net, Day day, int departure, int leaving, int rest) {
            sortBegins(net, day, departure);
            int goneOn = 0;
            for (int next = 0; next < net.turns; next++) {
                int ready = countEnded(net, day, departure, begins[next] - rest) - goneOn;
                goneOn += Math.min(ready, leaving);
            }
            return goneOn;
        }

        private void sortBegins(Net net, Day day, int departure) {
            for (int turn = 0; turn < net.turns; turn++) {
                int begin = day.real[turn][departure];
                int place = turn;
                while (place > 0 && begins[place - 1] > begin) {
                    begins[place] = begins[place - 1];
                    place--;
                }
                begins[place] = begin;
            }
        }

        private static int countEnded(Net net, Day day, int departure, int atLatest) {
            int count = 0;
            for (int number = 0; number < net.arcs; number++) {
                Arc arc = net.arc[number];
                if (!arc.live || arc.kind != RUN || arc.to != departure) {
                    continue;
                }
                for (int turn = 0; turn < net.turns; turn++) {
                    if (day.real[turn][arc.from] + arc.time <= atLatest) {
                        count++;
                    }
                }
            }
            return count;
        }
    }
}
