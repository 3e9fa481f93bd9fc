import java.util.ArrayList;
import java.util.List;
import java.util.regex.Matcher;
import java.util.regex.Pattern;

/**
 * What the tests of sentences share. Each test there names the sentence of the document that it is about (SentencesTest
 * looks whether it stands there, and whether none is left out). The Says tests ask what the sentence says, the Edge tests
 * just inside and just outside of it.
 */
final class Edge {
    /** Makes the same object each time. */
    interface Maker {
        GlideShelves make();
    }

    interface Act {
        void on(GlideShelves x);
    }

    interface IntAct {
        void on(GlideShelves x, int number);
    }

    interface Ask {
        Object of(GlideShelves x, int number);
    }

    static final Class<?> INDEX = IndexOutOfBoundsException.class;
    static final Class<?> ARGUMENT = IllegalArgumentException.class;
    static final Class<?> STATE = IllegalStateException.class;

    /** One part of each kind, each with as many as there can be: the longest order as a text, 49 characters. */
    static final String ALL_KINDS = "0*20,1*20,2*20,3*20,4*20,5*20,6*20,7*20,8*20,9*20";

    private static String sentence = "";
    private static int asked = 1;

    private Edge() {
    }

    /** The promise (0 for the terms) and the words of the document that the next checks are about. */
    static void of(int promise, String words) {
        requireAsked();
        sentence = promise + ", \"" + words + "\": ";
        asked = 0;
    }

    private static void requireAsked() {
        Check.is(sentence + "something is asked", asked > 0, true);
    }

    static void end(String test) {
        requireAsked();
        Check.end(test);
    }

    static void is(String what, Object got, Object due) {
        asked++;
        Check.is(sentence + what, got, due);
    }

    /** Asks for 0, 1, 2 and so on, as many as there are answers due. */
    static void each(GlideShelves x, Ask ask, Object... dues) {
        for (int number = 0; number < dues.length; number++) {
            is("of " + number, ask.of(x, number), dues[number]);
        }
    }

    /** The calls that the sentence names. */
    static List<String> calls() {
        List<String> names = new ArrayList<>();
        Matcher matcher = Pattern.compile("`(\\w+)`").matcher(sentence);
        while (matcher.find()) {
            names.add(matcher.group(1));
        }
        return names;
    }

    /** The call throws just this, and the object is then like one that was not asked, to its last saved state. */
    static void refuses(Class<?> due, Maker maker, Act call) {
        refuses("the call", due, maker, call);
    }

    static void refusesEach(Class<?> due, Maker maker, int[] numbers, IntAct call) {
        for (int number : numbers) {
            refuses("with " + number, due, maker, x -> call.on(x, number));
        }
    }

    private static void refuses(String what, Class<?> due, Maker maker, Act call) {
        GlideShelves asked = maker.make();
        Object got = "no exception";
        try {
            call.on(asked);
        } catch (RuntimeException e) {
            got = e.getClass();
        }
        is(what, got, due);
        is(what + " changes nothing", story(asked), story(maker.make()));
    }

    /** The call answers something and leaves the object like one that was not asked. */
    static void changesNothing(String what, Maker maker, Act call) {
        GlideShelves asked = maker.make();
        call.on(asked);
        is(what + " changes nothing", story(asked), story(maker.make()));
    }

    /** The call saves the state from before it, also where the oldest of 6 is dropped for it, and undo restores that. */
    static void undoable(Maker maker, Act call) {
        GlideShelves x = unsaved(maker);
        call.on(x);
        is("one state is saved", x.savedStates(), 1);
        x.undo();
        is("undone", story(x), story(unsaved(maker)));
        GlideShelves seventh = turned(maker, 6);
        call.on(seventh);
        is("of 7 states 6 are saved", seventh.savedStates(), 6);
        seventh.undo();
        // A seventh turning of the rule drops the same state.
        GlideShelves twin = turned(maker, 7);
        twin.undo();
        is("undone, of 7", story(seventh), story(twin));
    }

    private static GlideShelves turned(Maker maker, int times) {
        GlideShelves x = maker.make();
        for (int i = 0; i < times; i++) {
            x.turnRule();
        }
        return x;
    }

    /** The object without saved states, else as it is made. */
    static GlideShelves unsaved(Maker maker) {
        GlideShelves x = turned(maker, 6);
        for (int i = 0; i < 6; i++) {
            x.undo();
        }
        return x;
    }

    /** The call changes something that can be told. */
    static void changes(String what, Maker maker, Act call) {
        GlideShelves asked = maker.make();
        call.on(asked);
        is(what + " changes something", story(asked).equals(story(maker.make())), false);
    }

    /** All that can be told of an object: as it is, then of its saved states, then of its snapshots. */
    private static String story(GlideShelves x) {
        StringBuilder all = new StringBuilder();
        tell(all, x);
        all.append("buffer ").append(x.firstError()).append(" of ").append(x.clearBuffer()).append('\n');
        for (int i = 0; i < 6 && x.savedStates() > 0; i++) {
            x.undo();
            tell(all, x);
        }
        for (int slot = 0; slot < 2; slot++) {
            try {
                x.goBack(slot);
                tell(all, x);
            } catch (IllegalStateException e) {
                all.append("no snapshot in ").append(slot).append('\n');
            }
        }
        return all.toString();
    }

    private static void tell(StringBuilder all, GlideShelves x) {
        all.append(x.shelves()).append(' ').append(x.orders()).append(' ').append(x.lift()).append(' ');
        all.append(x.isKeptPlace()).append(' ').append(x.ticks()).append(' ').append(x.fetches()).append(' ');
        all.append(x.served()).append(' ').append(x.trips()).append(' ').append(x.savedStates()).append(' ');
        all.append(x.digest()).append('\n');
    }

    /** Just outside of a range, far outside, and numbers that wrap around into it when they are cut or multiplied. */
    static int[] outside(int least, int most) {
        return new int[] {least - 1, most + 1, Integer.MIN_VALUE, Integer.MAX_VALUE, least + 256, least - 256,
            least + 65536, least + (1 << 29), least + (1 << 30), least - (1 << 30), ~most};
    }

    /** Shelves 2 at 0 in front, 4 at 0 behind, 1 at 2 and 3 at 3 in front; each with an own weight; 3 orders. */
    static GlideShelves rich() {
        GlideShelves x = Check.tower(2, 4, 1, 3);
        Check.restock(x, 0, 0, 7);
        Check.restock(x, 1, 1, 5);
        x.keep(0);
        x.fetch(3);
        x.fill(0, 4);
        x.fill(2, 1);
        x.stow();
        x.changeWeight(1, 3);
        x.changeLeast(2, 9);
        Check.order(x, "0*9");
        Check.order(x, "1*2,2*1");
        x.keep(1);
        Check.order(x, "5*1");
        Check.type(x, "7*");
        return x;
    }

    /** As rich(), with the first order served: the shelf 0 has given 7 things, the shelf 3 has given 2. */
    static GlideShelves served() {
        GlideShelves x = rich();
        x.serve(0);
        return x;
    }

    /** As rich(), with the shelf 1 at the window. */
    static GlideShelves atWindow() {
        GlideShelves x = rich();
        x.fetch(1);
        return x;
    }

    /** 12 shelves of 1: the even ones in front, the odd ones behind, each at the half of its number. */
    static GlideShelves twelve() {
        return Check.tower(1, 1, 1, 1, 1, 1, 1, 1, 1, 1, 1, 1);
    }

    /** 10 shelves of 4 take all slots: the even ones in front, the odd ones behind. */
    static GlideShelves full() {
        return Check.tower(4, 4, 4, 4, 4, 4, 4, 4, 4, 4);
    }

    /** 9 shelves of 4 and one of 1; free are the slots 17 to 19 behind alone. */
    static GlideShelves threeFree() {
        return Check.tower(4, 4, 4, 4, 4, 4, 4, 4, 4, 1);
    }

    /** A full tower of 12 shelves, used so that packing would leave no place for the last one (see EdgePackTest). */
    static GlideShelves unpackable() {
        GlideShelves x = Check.tower(4, 4, 3, 3, 3, 3, 3, 3, 3, 3, 4, 4);
        int[] byUse = {2, 0, 3, 1, 4, 10, 5, 11};
        for (int i = 0; i < byUse.length; i++) {
            use(x, byUse[i], byUse.length - i);
        }
        return x;
    }

    /** 8 orders: 1 thing of the kind 0, 2 of the kind 1, and so on. */
    static GlideShelves eightOrders() {
        GlideShelves x = new GlideShelves();
        for (int order = 0; order < 8; order++) {
            Check.order(x, order + "*" + (order + 1));
        }
        return x;
    }

    static void use(GlideShelves x, int shelf, int times) {
        for (int i = 0; i < times; i++) {
            x.fetch(shelf);
            x.stow();
        }
    }

    /** Fetches the shelf and stows it at the place. */
    static void move(GlideShelves x, int shelf, int side, int slot) {
        x.fetch(shelf);
        x.stowAt(side, slot);
    }

    static GlideShelves typed(String text) {
        GlideShelves x = new GlideShelves();
        Check.type(x, text);
        return x;
    }

    static int place(GlideShelves x, int shelf) {
        return 20 * x.sideOf(shelf) + x.slotOf(shelf);
    }
}
