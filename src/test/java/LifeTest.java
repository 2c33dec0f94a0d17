/** "An object is used for at most 512 calls after it has been made": until then each answer is due. */
public final class LifeTest {
    private static final int MOST_CALLS = 512;

    public static void main(String[] args) {
        lastCallOfAsking();
        lastCallOfTelling();
        lastCallBehindRefusedOnes();
        manyObjects();
        Check.end("LifeTest");
    }

    /** The net that is told in a few calls here is that of the others in their last ones. */
    private static MaxplusJunction laid() {
        MaxplusJunction x = new MaxplusJunction();
        x.lay(4, 23);
        x.storm(8, 80);
        return x;
    }

    private static void lastCallOfAsking() {
        long digest = laid().digest();
        MaxplusJunction x = laid();
        for (int calls = 2; calls < MOST_CALLS - 1; calls++) {
            x.wave(calls % 8, calls % 6, calls % 500);
        }
        Check.due("call 512", digest, x.digest());
    }

    private static void lastCallOfTelling() {
        MaxplusJunction x = laid();
        boolean[] isBroken = new boolean[11];
        for (int calls = 2; calls < MOST_CALLS - 4; calls++) {
            int arc = calls / 4 % 11;
            switch (calls % 4) {
                case 0:
                    x.delay(calls % 8, calls % 6, 1 + calls % 500);
                    break;
                case 1:
                    x.period(1 + calls % 500);
                    break;
                case 2:
                    x.horizon(6 + calls % 7);
                    break;
                default:
                    isBroken[arc] = !isBroken[arc];
                    x.live(arc, !isBroken[arc]);
            }
        }
        x.period(60);
        x.horizon(6);
        x.storm(8, 80);
        MaxplusJunction y = laid();
        for (int arc = 0; arc < 11; arc++) {
            y.live(arc, !isBroken[arc]);
        }
        Check.due("call 512, of a net that was told at once", y.digest(), x.digest());
    }

    private static void lastCallBehindRefusedOnes() {
        long digest = laid().digest();
        MaxplusJunction x = laid();
        for (int calls = 2; calls < MOST_CALLS - 1; calls++) {
            Check.due("call " + calls, Check.ARGUMENT, Answers.of(x, "lay", 0, calls));
        }
        Check.due("call 512", digest, x.digest());
    }

    /** One object knows nothing of another one, as many as there are. */
    private static void manyObjects() {
        long digest = laid().digest();
        MaxplusJunction[] all = new MaxplusJunction[50];
        for (int number = 0; number < all.length; number++) {
            all[number] = laid();
            all[number].delay(0, 0, number);
        }
        for (int number = 0; number < all.length; number++) {
            Check.due("lateness of object " + number, number, all[number].at(0, 0, 3));
            Check.due("a new one", digest, laid().digest());
        }
    }
}
