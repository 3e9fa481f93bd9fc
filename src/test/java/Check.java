import java.util.Objects;

/** What the tests share: checks that print what is wrong, and an end that fails if anything was. */
final class Check {
    interface Call {
        Object run();
    }

    private static int checks = 0;
    private static int wrong = 0;

    private Check() {
    }

    static void is(String what, Object got, Object due) {
        checks++;
        if (!Objects.equals(got, due)) {
            wrong++;
            System.out.println(what + " answered " + got + ", due is " + due);
        }
    }

    /** Exactly this exception is thrown, and nothing that the object tells is another then. */
    static void fails(String what, GlideShelves x, Class<?> due, Call call) {
        long before = x.digest();
        Object got;
        try {
            got = call.run();
        } catch (RuntimeException e) {
            got = e.getClass();
        }
        is(what, got, due);
        is(what + ": the digest", x.digest(), before);
    }

    /** As fails(), for a call that answers nothing. */
    static void failsToRun(String what, GlideShelves x, Class<?> due, Runnable call) {
        fails(what, x, due, () -> {
            call.run();
            return null;
        });
    }

    static void type(GlideShelves x, String text) {
        for (char sign : text.toCharArray()) {
            x.append(sign);
        }
    }

    /** Takes the order that the text tells on. */
    static int order(GlideShelves x, String text) {
        x.clearBuffer();
        type(x, text);
        return x.accept();
    }

    /** Fetches the shelf, fills in so many things of the kind, and stows it. */
    static void restock(GlideShelves x, int shelf, int kind, int many) {
        x.fetch(shelf);
        x.fill(kind, many);
        x.stow();
    }

    /** A tower with shelves of these heights. */
    static GlideShelves tower(int... heights) {
        GlideShelves x = new GlideShelves();
        for (int height : heights) {
            x.addShelf(height);
        }
        return x;
    }

    static void end(String test) {
        System.out.println(test + ": " + checks + " checks, " + wrong + " wrong");
        if (wrong > 0 || checks == 0) {
            System.exit(1);
        }
    }
}
