/** What all tests here share: they count what is not as due, print it, and end with code 1 then. */
final class Check {
    static final int NONE = -1;
    static final String INDEX = "IndexOutOfBoundsException";
    static final String ARGUMENT = "IllegalArgumentException";
    static final String STATE = "IllegalStateException";
    private static int wrong = 0;
    private static int asked = 0;

    interface Call {
        Object run();
    }

    private Check() {
    }

    static void due(String what, Object want, Object got) {
        asked++;
        if (!want.equals(got)) {
            wrong++;
            System.out.println(what + " answered " + got + ", due is " + want);
        }
    }

    /** The call throws just that exception, and the net answers all as it did before. */
    static void refused(String what, String exception, MaxplusJunction net, Call call) {
        long before = net.digest();
        String got;
        try {
            got = String.valueOf(call.run());
        } catch (RuntimeException e) {
            got = e.getClass().getSimpleName();
        }
        due(what, exception, got);
        due(what + ", the digest behind it", before, net.digest());
    }

    static void end(String test) {
        System.out.println(test + ": " + asked + " asked, " + wrong + " not as due");
        if (wrong > 0) {
            System.exit(1);
        }
    }
}
