/** Small nets that several tests begin with. */
final class Nets {
    static final int RUN = 0;
    static final int STOCK = 1;
    static final int CONNECTION = 2;
    static final int TRACK = 3;

    private Nets() {
    }

    /** A DEPARTURE of LINE 0 and WEIGHT 1 for each OFFSET. */
    static MaxplusJunction of(int... offsets) {
        MaxplusJunction x = new MaxplusJunction();
        for (int offset : offsets) {
            x.departure(0, offset, 1);
        }
        return x;
    }

    /** So many DEPARTURES of LINE 0, OFFSET 0 and WEIGHT 1. */
    static MaxplusJunction many(int departures) {
        return of(new int[departures]);
    }

    /** The same, and RUNS with a SHIFT of 0 from each to the next one, the last one told first. */
    static MaxplusJunction chain(int departures, int time) {
        MaxplusJunction x = many(departures);
        for (int number = departures - 2; number >= 0; number--) {
            x.arc(number, number + 1, time, 0, RUN);
        }
        return x;
    }
}
