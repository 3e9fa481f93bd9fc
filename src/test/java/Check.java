import java.util.Objects;

/** What the tests share: checks that print what is wrong, and an end that fails if anything was. */
final class Check {
    interface Call {
        Object run();
    }

    private static int checks = 0;
    private static int wrong = 0;

    private Check() {
    }

    static void is(String what, Object got, Object due) {
        checks++;
        if (!Objects.equals(got, due)) {
            wrong++;
            System.out.println(what + " answered " + got + ", due is " + due);
        }
    }

    /** Exactly this exception is thrown, and nothing that the object tells is another then. */
    static void fails(String what, GlideShelves x, Class<?> due, Call call) {
        long before = x.digest();
        Object got;
        try {
            got = call.run();
        } catch (RuntimeException e) {
            got = e.getClass();
        }
        is(what, got, due);
        is(what + ": the digest", x.digest(), before);
    }

    static void end(String test) {
        System.out.println(test + ": " + checks + " checks, " + wrong + " wrong");
        if (wrong > 0 || checks == 0) {
            System.exit(1);
        }
    }
}
