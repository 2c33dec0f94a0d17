import java.util.ArrayList;
import java.util.HashSet;
import java.util.List;
import java.util.Set;

/**
 * The document once more, word by word and slowly, in other ways than the class goes: rings one by one,
 * REAL and ROOT by recursion, crews by augmenting ways, choices by counting through all of them.
 */
final class Oracle {
    private static final class Dep {
        int line;
        int offset;
        int weight;
    }

    private static final class Arc {
        int number;
        int from;
        int to;
        int time;
        int shift;
        int kind;
        int riders;
        boolean loose;
        boolean live = true;
        Arc other;
    }

    private int period = 60;
    private int h = 6;
    private final List<Dep> deps = new ArrayList<>();
    private final List<Arc> arcs = new ArrayList<>();
    private final List<Arc[]> pairs = new ArrayList<>();
    private final int[][] lateness = new int[14][12];

    private void needDep(int... numbers) {
        for (int number : numbers) {
            if (number < 0 || number >= deps.size()) {
                throw new IndexOutOfBoundsException();
            }
        }
    }

    private void needArc(int... numbers) {
        for (int number : numbers) {
            if (number < 0 || number >= arcs.size()) {
                throw new IndexOutOfBoundsException();
            }
        }
    }

    private void needTurn(int turn) {
        if (turn < 0 || turn >= h) {
            throw new IndexOutOfBoundsException();
        }
    }

    private static void need(int number, int least, int most) {
        if (number < least || number > most) {
            throw new IllegalArgumentException();
        }
    }

    private static void state(boolean isRight) {
        if (!isRight) {
            throw new IllegalStateException();
        }
    }

    // ---- rings

    /** Whether one can come back to an arc's beginning by live arcs with a shift of 0. */
    private boolean ringOfZero() {
        for (Arc arc : arcs) {
            if (arc.live && arc.shift == 0 && comesTo(arc.to, arc.from, new HashSet<>())) {
                return true;
            }
        }
        return false;
    }

    private boolean comesTo(int from, int to, Set<Integer> seen) {
        if (from == to) {
            return true;
        }
        if (!seen.add(from)) {
            return false;
        }
        for (Arc arc : arcs) {
            if (arc.live && arc.shift == 0 && arc.from == from && comesTo(arc.to, to, seen)) {
                return true;
            }
        }
        return false;
    }

    private int[] greatest;
    private int critical;

    private void eachRing(int begin, int now, int visited, int times, int shifts) {
        for (Arc arc : arcs) {
            if (!arc.live || arc.from != now || arc.to < begin) {
                continue;
            }
            int t = times + arc.time;
            int s = shifts + arc.shift;
            if (arc.to == begin) {
                int c = t * greatest[1] - greatest[0] * s;
                if (c > 0) {
                    greatest = new int[] {t, s};
                    critical = 0;
                }
                if (c >= 0) {
                    critical |= visited;
                }
            } else if ((visited >> arc.to & 1) == 0) {
                eachRing(begin, arc.to, visited | 1 << arc.to, t, s);
            }
        }
    }

    private void findRings() {
        greatest = new int[] {0, 1};
        critical = 0;
        for (int begin = 0; begin < deps.size(); begin++) {
            eachRing(begin, begin, 1 << begin, 0, 0);
        }
        for (int n = 2; n <= greatest[1]; n++) {
            while (greatest[0] % n == 0 && greatest[1] % n == 0) {
                greatest[0] /= n;
                greatest[1] /= n;
            }
        }
    }

    private int slack(Arc arc) {
        return deps.get(arc.to).offset + arc.shift * period - deps.get(arc.from).offset - arc.time;
    }

    private boolean holdsNow() {
        return arcs.stream().noneMatch(arc -> arc.live && slack(arc) < 0);
    }

    // ---- a day

    private final int[][] real = new int[14][12];

    private int plan(int d, int k) {
        return deps.get(d).offset + k * period;
    }

    private int realOf(int d, int k) {
        if (real[d][k] >= 0) {
            return real[d][k];
        }
        int most = plan(d, k) + lateness[d][k];
        for (Arc arc : arcs) {
            if (arc.live && arc.to == d && k >= arc.shift) {
                most = Math.max(most, realOf(arc.from, k - arc.shift) + arc.time);
            }
        }
        real[d][k] = most;
        return most;
    }

    private void runDay() {
        for (int[] row : real) {
            java.util.Arrays.fill(row, -1);
        }
        for (int d = 0; d < deps.size(); d++) {
            for (int k = 0; k < h; k++) {
                realOf(d, k);
            }
        }
    }

    private int late(int d, int k) {
        return real[d][k] - plan(d, k);
    }

    private int lateOfAll() {
        int sum = 0;
        for (int d = 0; d < deps.size(); d++) {
            for (int k = 0; k < h; k++) {
                sum += late(d, k);
            }
        }
        return sum;
    }

    private int costNow() {
        runDay();
        int sum = 0;
        for (int d = 0; d < deps.size(); d++) {
            for (int k = 0; k < h; k++) {
                sum += deps.get(d).weight * late(d, k);
            }
        }
        for (Arc arc : arcs) {
            if (arc.kind == 2 && !arc.live) {
                sum += arc.riders * period * h;
            }
        }
        return sum;
    }

    private int[] root(int d, int k) {
        if (late(d, k) == 0 || lateness[d][k] == late(d, k)) {
            return new int[] {d, k};
        }
        for (Arc arc : arcs) {
            if (arc.live && arc.to == d && k >= arc.shift
                    && real[arc.from][k - arc.shift] + arc.time == real[d][k]) {
                return root(arc.from, k - arc.shift);
            }
        }
        throw new AssertionError("nobody to blame");
    }

    private int minutes(int of) {
        int sum = 0;
        for (int d = 0; d < deps.size(); d++) {
            for (int k = 0; k < h; k++) {
                if (late(d, k) > 0 && root(d, k)[0] == of) {
                    sum += late(d, k);
                }
            }
        }
        return sum;
    }

    // ---- the face

    public int period(int p) {
        need(p, 1, 500);
        int before = period;
        period = p;
        return before;
    }

    public int departure(int line, int offset, int weight) {
        need(line, 0, 5);
        need(offset, 0, 999);
        need(weight, 0, 99);
        state(deps.size() < 14);
        Dep dep = new Dep();
        dep.line = line;
        dep.offset = offset;
        dep.weight = weight;
        deps.add(dep);
        return deps.size() - 1;
    }

    public int move(int departure, int offset) {
        needDep(departure);
        need(offset, 0, 999);
        int before = deps.get(departure).offset;
        deps.get(departure).offset = offset;
        return before;
    }

    public int arc(int from, int to, int time, int shift, int kind) {
        needDep(from, to);
        need(time, 1, 300);
        need(shift, 0, 2);
        need(kind, 0, 3);
        state(arcs.size() < 36);
        Arc arc = new Arc();
        arc.number = arcs.size();
        arc.from = from;
        arc.to = to;
        arc.time = time;
        arc.shift = shift;
        arc.kind = kind;
        arcs.add(arc);
        if (ringOfZero()) {
            arcs.remove(arc.number);
            state(false);
        }
        return arc.number;
    }

    public int riders(int arc, int riders, boolean isLoose) {
        needArc(arc);
        need(riders, 0, 99);
        Arc it = arcs.get(arc);
        state(it.kind == 2);
        long others = arcs.stream().filter(a -> a.loose && a != it).count();
        state(!isLoose || others < 4);
        it.riders = riders;
        it.loose = isLoose;
        return (int) others + (isLoose ? 1 : 0);
    }

    public int pair(int one, int other) {
        needArc(one, other);
        if (one == other) {
            throw new IllegalArgumentException();
        }
        Arc a = arcs.get(one);
        Arc b = arcs.get(other);
        state(a.kind == 3 && b.kind == 3 && a.other == null && b.other == null && pairs.size() < 3);
        a.other = b;
        b.other = a;
        if (a.live && b.live) {
            b.live = false;
        }
        pairs.add(new Arc[] {a, b});
        return pairs.size() - 1;
    }

    public boolean live(int arc, boolean isLive) {
        needArc(arc);
        boolean[] before = lives();
        Arc it = arcs.get(arc);
        it.live = isLive;
        if (isLive && it.other != null) {
            it.other.live = false;
        }
        if (ringOfZero()) {
            put(before);
            state(false);
        }
        return before[arc];
    }

    private boolean[] lives() {
        boolean[] all = new boolean[arcs.size()];
        for (Arc arc : arcs) {
            all[arc.number] = arc.live;
        }
        return all;
    }

    private void put(boolean[] lives) {
        for (Arc arc : arcs) {
            arc.live = lives[arc.number];
        }
    }

    private int[] offsetsBy(int p) {
        int[] offsets = new int[deps.size()];
        for (int round = 0; round < 5000; round++) {
            boolean isStill = true;
            for (Arc arc : arcs) {
                int least = offsets[arc.from] + arc.time - arc.shift * p;
                if (arc.live && offsets[arc.to] < least) {
                    offsets[arc.to] = least;
                    isStill = false;
                }
                if (offsets[arc.to] > 999) {
                    return null;
                }
            }
            if (isStill) {
                return offsets;
            }
        }
        throw new AssertionError("offsets rise for ever");
    }

    public int make() {
        state(!deps.isEmpty());
        int[] offsets = offsetsBy(period);
        if (offsets == null) {
            return -1;
        }
        for (int d = 0; d < deps.size(); d++) {
            deps.get(d).offset = offsets[d];
        }
        return java.util.Arrays.stream(offsets).max().getAsInt();
    }

    public int wouldMake(int p) {
        need(p, 1, 500);
        state(!deps.isEmpty());
        int[] offsets = offsetsBy(p);
        return offsets == null ? -1 : java.util.Arrays.stream(offsets).max().getAsInt();
    }

    private int drawn;

    private int draw(int modulo) {
        drawn = (53 * drawn + 37) % 113;
        return drawn % modulo;
    }

    public int lay(int lines, int seed) {
        need(lines, 1, 4);
        need(seed, 0, 99);
        state(deps.isEmpty());
        drawn = seed;
        List<List<Integer>> laid = new ArrayList<>();
        for (int line = 0; line < lines; line++) {
            List<Integer> stops = new ArrayList<>();
            int count = 2 + draw(2);
            while (stops.size() < count) {
                int offset = draw(period);
                stops.add(departure(line, offset, 1 + draw(5)));
            }
            for (int stop = 1; stop < count; stop++) {
                arc(stops.get(stop - 1), stops.get(stop), 10 + draw(20), 0, 0);
            }
            arc(stops.get(count - 1), stops.get(0), 10 + draw(30), 1, 1);
            laid.add(stops);
        }
        for (int line = 1; line < lines; line++) {
            List<Integer> stops = laid.get(line);
            int time = 2 + draw(5);
            int shift = draw(2);
            int number = arc(laid.get(line - 1).get(0), stops.get(stops.size() - 1), time, shift, 2);
            arcs.get(number).riders = draw(50);
        }
        return arcs.size();
    }

    public int horizon(int turns) {
        need(turns, 1, 12);
        int before = h;
        h = turns;
        for (int[] row : lateness) {
            for (int k = turns; k < 12; k++) {
                row[k] = 0;
            }
        }
        return before;
    }

    public int delay(int departure, int turn, int minutes) {
        needDep(departure);
        needTurn(turn);
        need(minutes, 0, 500);
        int before = lateness[departure][turn];
        lateness[departure][turn] = minutes;
        return before;
    }

    public int clear() {
        int some = 0;
        for (int[] row : lateness) {
            for (int k = 0; k < 12; k++) {
                some += row[k] > 0 ? 1 : 0;
                row[k] = 0;
            }
        }
        return some;
    }

    public int storm(int seed, int most) {
        need(seed, 0, 99);
        need(most, 1, 100);
        drawn = seed;
        int sum = 0;
        for (int k = 0; k < h; k++) {
            for (int d = 0; d < deps.size(); d++) {
                lateness[d][k] = 0;
                if (draw(8) == 0) {
                    lateness[d][k] = draw(most + 1);
                }
                sum += lateness[d][k];
            }
        }
        return sum;
    }

    /** {cost, changes, number, set of live arcs as one number per arc} of the best choice. */
    private long[] bestChoice() {
        boolean[] before = lives();
        List<Arc> loose = new ArrayList<>();
        for (Arc arc : arcs) {
            if (arc.loose) {
                loose.add(arc);
            }
        }
        long[] best = null;
        for (int l = 0; l < 1 << loose.size(); l++) {
            each:
            for (int p = 0; p < 1 << pairs.size(); p++) {
                put(before);
                for (int n = 0; n < loose.size(); n++) {
                    loose.get(n).live = (l >> n) % 2 == 0;
                }
                for (int n = 0; n < pairs.size(); n++) {
                    Arc[] pair = pairs.get(n);
                    int chosen = (p >> n) % 2;
                    if (pair[0].live || pair[1].live) {
                        pair[chosen].live = true;
                        pair[1 - chosen].live = false;
                    } else if (chosen == 1) {
                        continue each;
                    }
                }
                if (ringOfZero()) {
                    continue;
                }
                long lives = 0;
                long changes = 0;
                for (Arc arc : arcs) {
                    lives |= arc.live ? 1L << arc.number : 0;
                    changes += arc.live != before[arc.number] ? 1 : 0;
                }
                long[] it = {costNow(), changes, l + 16 * p, lives};
                if (best == null || it[0] < best[0] || it[0] == best[0]
                        && (it[1] < best[1] || it[1] == best[1] && it[2] < best[2])) {
                    best = it;
                }
            }
        }
        put(before);
        return best;
    }

    public int decide() {
        long[] best = bestChoice();
        for (Arc arc : arcs) {
            arc.live = (best[3] >> arc.number & 1) == 1;
        }
        return (int) best[1];
    }

    public int best(int what) {
        need(what, 0, 2);
        long[] best = bestChoice();
        return (int) (what == 0 ? best[0] : what == 1 ? best[2] : best[1]);
    }

    public int ofDeparture(int departure, int what) {
        needDep(departure);
        need(what, 0, 7);
        Dep dep = deps.get(departure);
        runDay();
        findRings();
        int lates = 0;
        for (int k = 0; k < h; k++) {
            lates += late(departure, k);
        }
        return new int[] {dep.line, dep.offset, dep.weight,
            (int) arcs.stream().filter(a -> a.live && a.to == departure).count(),
            (int) arcs.stream().filter(a -> a.live && a.from == departure).count(),
            critical >> departure & 1, minutes(departure), lates}[what];
    }

    public int ofArc(int arc, int what) {
        needArc(arc);
        need(what, 0, 9);
        Arc it = arcs.get(arc);
        return new int[] {it.from, it.to, it.time, it.shift, it.kind, it.kind == 2 ? it.riders : 0,
            it.live ? 1 : 0, slack(it), it.loose ? 1 : 0, it.other == null ? -1 : it.other.number}[what];
    }

    public int rings(int what) {
        need(what, 0, 6);
        findRings();
        double least = (double) greatest[0] / greatest[1];
        return new int[] {greatest[0], greatest[1], (int) Math.floor(period - least + 1e-9),
            least < period ? 1 : 0, holdsNow() ? 1 : 0, critical, (int) Math.ceil(least - 1e-9)}[what];
    }

    private int leastSlack(int now, int to, int visited) {
        if (now == to) {
            return 0;
        }
        int least = -1;
        for (Arc arc : arcs) {
            if (arc.live && arc.from == now && (visited >> arc.to & 1) == 0) {
                int rest = leastSlack(arc.to, to, visited | 1 << arc.to);
                if (rest >= 0 && (least < 0 || rest + slack(arc) < least)) {
                    least = rest + slack(arc);
                }
            }
        }
        return least;
    }

    public int healing(int from, int to) {
        needDep(from, to);
        return holdsNow() ? leastSlack(from, to, 1 << from) : -1;
    }

    public int feels(int departure, int delay) {
        needDep(departure);
        need(delay, 1, 500);
        int set = 0;
        for (int to = 0; to < deps.size(); to++) {
            int healing = healing(departure, to);
            set += healing >= 0 && healing < delay ? 1 << to : 0;
        }
        return set;
    }

    private int freeOf(int d, int k, int[][] known) {
        if (known[d][k] < 0) {
            int most = 0;
            for (Arc arc : arcs) {
                if (arc.live && arc.to == d && k >= arc.shift) {
                    most = Math.max(most, freeOf(arc.from, k - arc.shift, known) + arc.time);
                }
            }
            known[d][k] = most;
        }
        return known[d][k];
    }

    public int free(int departure, int turn) {
        needDep(departure);
        need(turn, 0, 30);
        int[][] known = new int[14][31];
        for (int[] row : known) {
            java.util.Arrays.fill(row, -1);
        }
        return freeOf(departure, turn, known);
    }

    private int powerOf(int from, int to, int steps, int[][] known) {
        if (steps == 0) {
            return from == to ? 0 : -1;
        }
        if (known[from][steps] == -2) {
            int most = -1;
            for (Arc arc : arcs) {
                if (arc.live && arc.from == from) {
                    int rest = powerOf(arc.to, to, steps - 1, known);
                    most = Math.max(most, rest < 0 ? -1 : rest + arc.time);
                }
            }
            known[from][steps] = most;
        }
        return known[from][steps];
    }

    public int power(int from, int to, int steps) {
        needDep(from, to);
        need(steps, 0, 30);
        int[][] known = new int[14][31];
        for (int[] row : known) {
            java.util.Arrays.fill(row, -2);
        }
        return powerOf(from, to, steps, known);
    }

    public int at(int departure, int turn, int what) {
        needDep(departure);
        needTurn(turn);
        need(what, 0, 5);
        runDay();
        int late = late(departure, turn);
        int[] root = late > 0 ? root(departure, turn) : new int[] {-1, -1};
        return new int[] {plan(departure, turn), real[departure][turn], late, lateness[departure][turn],
            root[0], root[1]}[what];
    }

    public int day(int what) {
        need(what, 0, 7);
        int cost = costNow();
        int settles = 0;
        int count = 0;
        int most = 0;
        int told = 0;
        for (int d = 0; d < deps.size(); d++) {
            for (int k = 0; k < h; k++) {
                if (late(d, k) > 0) {
                    settles = Math.max(settles, k + 1);
                    count++;
                }
                most = Math.max(most, late(d, k));
                told += lateness[d][k];
            }
        }
        int broken = (int) arcs.stream().filter(a -> !a.live).count();
        return new int[] {cost, lateOfAll(), settles, count, most, h, broken, told}[what];
    }

    public String board(int departure) {
        needDep(departure);
        runDay();
        List<String> all = new ArrayList<>();
        for (int k = 0; k < h; k++) {
            int late = late(departure, k);
            all.add(real[departure][k] + (late > 0 ? "+" + late : ""));
        }
        return String.join(" ", all);
    }

    public int ride(int from, int turn, int to) {
        needDep(from, to);
        needTurn(turn);
        runDay();
        boolean[][] come = new boolean[14][40];
        come[from][turn] = true;
        for (boolean isMore = true; isMore;) {
            isMore = false;
            for (Arc arc : arcs) {
                for (int k = 0; k < h; k++) {
                    if (!come[arc.from][k] || arc.kind % 2 != 0 || !arc.live && arc.kind == 0) {
                        continue;
                    }
                    int next = k + arc.shift;
                    if (!arc.live && next < h && real[arc.to][next] < real[arc.from][k] + arc.time) {
                        next++;
                    }
                    if (next < h && !come[arc.to][next]) {
                        come[arc.to][next] = true;
                        isMore = true;
                    }
                }
            }
        }
        int least = -1;
        for (int k = 0; k < h; k++) {
            if (come[to][k] && (least < 0 || real[to][k] < least)) {
                least = real[to][k];
            }
        }
        return least;
    }

    public int ofLine(int line, int what) {
        if (line < 0 || line > 5) {
            throw new IndexOutOfBoundsException();
        }
        need(what, 0, 3);
        runDay();
        int[] answers = new int[4];
        for (int d = 0; d < deps.size(); d++) {
            if (deps.get(d).line == line) {
                answers[0]++;
                answers[1] += minutes(d);
                for (int k = 0; k < h; k++) {
                    answers[2] += late(d, k);
                    answers[3] = Math.max(answers[3], late(d, k));
                }
            }
        }
        return answers[what];
    }

    /** The greatest matching of works that end to works that begin, by augmenting ways. */
    public int crews(int rest) {
        need(rest, 0, 100);
        runDay();
        List<int[]> works = new ArrayList<>();
        for (Arc arc : arcs) {
            for (int k = 0; k < h && arc.live && arc.kind == 0; k++) {
                works.add(new int[] {arc.from, real[arc.from][k], arc.to, real[arc.from][k] + arc.time});
            }
        }
        int[] ahead = new int[works.size()];
        java.util.Arrays.fill(ahead, -1);
        int crews = works.size();
        for (int one = 0; one < works.size(); one++) {
            if (goesOn(one, works, ahead, new boolean[works.size()], rest)) {
                crews--;
            }
        }
        return crews;
    }

    private boolean goesOn(int one, List<int[]> works, int[] ahead, boolean[] seen, int rest) {
        int[] w = works.get(one);
        for (int next = 0; next < works.size(); next++) {
            int[] v = works.get(next);
            if (!seen[next] && v[0] == w[2] && v[1] >= w[3] + rest) {
                seen[next] = true;
                if (ahead[next] < 0 || goesOn(ahead[next], works, ahead, seen, rest)) {
                    ahead[next] = one;
                    return true;
                }
            }
        }
        return false;
    }

    public int without(int arc) {
        needArc(arc);
        boolean before = arcs.get(arc).live;
        arcs.get(arc).live = false;
        int cost = costNow();
        arcs.get(arc).live = before;
        return cost;
    }

    public int wave(int departure, int turn, int minutes) {
        needDep(departure);
        needTurn(turn);
        need(minutes, 0, 500);
        runDay();
        int lates = lateOfAll();
        int before = lateness[departure][turn];
        lateness[departure][turn] = minutes;
        runDay();
        lateness[departure][turn] = before;
        return lateOfAll() - lates;
    }

    public int heals(int budget) {
        need(budget, 1, 100);
        runDay();
        int least = lateOfAll();
        int healer = -1;
        for (Arc arc : arcs) {
            if (arc.live) {
                int before = arc.time;
                arc.time = Math.max(0, before - budget);
                runDay();
                arc.time = before;
                if (lateOfAll() < least) {
                    least = lateOfAll();
                    healer = arc.number;
                }
            }
        }
        return healer;
    }

    public boolean isSound() {
        runDay();
        findRings();
        int minutes = 0;
        for (int d = 0; d < deps.size(); d++) {
            minutes += minutes(d);
        }
        boolean isQuiet = day(7) > 0 || lateOfAll() == 0;
        return minutes == lateOfAll() && pairs.stream().noneMatch(p -> p[0].live && p[1].live)
                && (!holdsNow() || isQuiet && greatest[0] <= period * greatest[1]);
    }

    public long digest() {
        List<Integer> all = new ArrayList<>();
        all.add(period);
        for (int what = 0; what < 7; what++) {
            all.add(rings(what));
        }
        for (int what = 0; what < 8; what++) {
            all.add(day(what));
        }
        for (int d = 0; d < deps.size(); d++) {
            for (int what = 0; what < 8; what++) {
                all.add(ofDeparture(d, what));
            }
            all.add(free(d, 5));
            all.add(healing(d, 0));
            for (int k = 0; k < h; k++) {
                all.add(at(d, k, 1));
                all.add(at(d, k, 4));
                all.add(at(d, k, 5));
            }
        }
        for (int a = 0; a < arcs.size(); a++) {
            all.add(ofArc(a, 6));
            all.add(ofArc(a, 7));
            all.add(ofArc(a, 9));
        }
        for (int line = 0; line < 6; line++) {
            for (int what = 0; what < 4; what++) {
                all.add(ofLine(line, what));
            }
        }
        all.add(isSound() ? 1 : 0);
        long d = 58285;
        for (int v : all) {
            d = d * 31 + v;
        }
        return d;
    }
}
