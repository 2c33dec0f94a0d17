/** What all tests here share: they count what is not as due, print it, and end with code 1 then. */
final class Check {
    static final int NONE = -1;
    static final String INDEX = "IndexOutOfBoundsException";
    static final String ARGUMENT = "IllegalArgumentException";
    static final String STATE = "IllegalStateException";
    private static final long MOST_SECONDS = 300;
    private static int wrong = 0;
    private static int asked = 0;
    private static boolean isWatched = false;

    interface Call {
        Object run();
    }

    private Check() {
    }

    /** No call may fail to end; each test takes some seconds, so one that takes minutes has failed. */
    static void watch() {
        if (isWatched) {
            return;
        }
        isWatched = true;
        Thread watch = new Thread(() -> {
            try {
                Thread.sleep(1000 * MOST_SECONDS);
            } catch (InterruptedException e) {
                return;
            }
            System.out.println("no end after " + MOST_SECONDS + " seconds");
            Runtime.getRuntime().halt(1);
        });
        watch.setDaemon(true);
        watch.start();
    }

    static void due(String what, Object want, Object got) {
        watch();
        asked++;
        if (!want.equals(got)) {
            wrong++;
            System.out.println(what + " answered " + got + ", due is " + want);
        }
    }

    /** The answers of one method to the numbers 0, 1, .. behind the arguments that are the same. */
    static void dueEach(MaxplusJunction x, String name, Object[] args, int... want) {
        for (int what = 0; what < want.length; what++) {
            Object[] all = java.util.Arrays.copyOf(args, args.length + 1);
            all[args.length] = what;
            String call = name + java.util.Arrays.toString(all);
            due(call, String.valueOf(want[what]), Answers.of(x, name, all));
        }
    }

    /** The call throws just that exception, and the net answers all as it did before. */
    static void refused(String what, String exception, MaxplusJunction net, Call call) {
        long before = net.digest();
        String got;
        try {
            got = String.valueOf(call.run());
        } catch (RuntimeException e) {
            got = e.getClass().getSimpleName();
        }
        due(what, exception, got);
        due(what + ", the digest behind it", before, net.digest());
    }

    /** The call throws just that exception, and behind it all is answered as by a net without that call. */
    static void refused(String what, String exception, Answers.Maker net, Answers.Call call) {
        due(what, exception, Answers.of(net.make(), call));
        unchanged(what, net, call);
    }

    /** Behind the call all is answered as by a net without that call. */
    static void unchanged(String what, Answers.Maker net, Answers.Call call) {
        due(what + ", the first other answer behind it", "", Answers.difference(net, () -> {
            MaxplusJunction x = net.make();
            Answers.of(x, call);
            return x;
        }));
    }

    static void end(String test) {
        System.out.println(test + ": " + asked + " asked, " + wrong + " not as due");
        if (wrong > 0) {
            System.exit(1);
        }
    }
}
