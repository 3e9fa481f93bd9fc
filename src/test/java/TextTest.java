/** Orders as texts: promises 10 and 17 to 19. */
public final class TextTest {
    private static final Class<?> ARGUMENT = IllegalArgumentException.class;
    private static final Class<?> STATE = IllegalStateException.class;

    private TextTest() {
    }

    private static void promise17And18Buffer() {
        GlideShelves x = new GlideShelves();
        Check.is("18: empty", x.clearBuffer(), 0);
        for (int code : new int[] {32, 127, 0, -1, 256 + 48, Integer.MIN_VALUE, Integer.MAX_VALUE}) {
            Check.fails("17: code " + code, x, ARGUMENT, () -> x.append(code));
        }
        for (int i = 1; i <= 60; i++) {
            int code = i == 1 ? 33 : i == 2 ? 126 : 48;
            Check.is("17: length", x.append(code), i);
        }
        Check.fails("17: 60 characters", x, STATE, () -> x.append(48));
        Check.fails("17: code, named before", x, ARGUMENT, () -> x.append(32));
        Check.is("17: not undoable", x.savedStates(), 0);
        Check.is("18: its length", x.clearBuffer(), 60);
        Check.is("18: cleared", x.clearBuffer(), 0);
        Check.is("17: from the start", x.append(48), 1);
        Check.is("18: not undoable", x.savedStates(), 0);
    }

    private static void error(String text, int due) {
        GlideShelves x = new GlideShelves();
        Check.type(x, text);
        long before = x.digest();
        Check.is("19: " + text, x.firstError(), due);
        Check.is("19: changes nothing: " + text, x.digest(), before);
    }

    private static void promise19FirstError() {
        error("", 0);
        for (String whole : new String[] {"0", "0*", "0*1", "0*10", "0*19", "0*20", "0*9,", "0*1,1", "0*1,9*20",
            "8*20,9*20", "0*20,1*20,2*20,3*20,4*20,5*20,6*20,7*20,8*20,9*20", "9*2", "9*20", "5*1,", "0*2,9"}) {
            error(whole, whole.length());
        }
        for (String start : new String[] {"*", ",", "a", "/", ":", "-", "!", "~"}) {
            error(start + "*1", 0);
        }
        for (String star : new String[] {"0", "1", ",", "+", "x", ")"}) {
            error("0" + star + "1", 1);
        }
        for (String number : new String[] {"0", ",", "*", "a", "/", ":", "05"}) {
            error("3*" + number, 2);
        }
        for (String number : new String[] {"21", "29", "30", "90", "99", "1*", "1a", "2/", "1:", "1+"}) {
            error("3*" + number, 3);
        }
        for (String number : new String[] {"100", "109", "200", "20*", "19:"}) {
            error("3*" + number, 4);
        }
        error("9*1,", 3);
        error("9*20,", 4);
        error("0*1,9*20,", 8);
        error("0*1,,", 4);
        error("5*1,5", 4);
        error("5*1,4*1", 4);
        error("5*1,0", 4);
        error("5*1,7*1,6", 8);
        error("5*1,6*1,6*1", 8);
        error("0*1,*", 4);
        error("0*1,1,", 5);
        error("0*1,1*0", 6);
        error("0*1 ".trim() + "!0*1", 3);
        error("zz", 0);
    }

    private static void rejects(GlideShelves x, String text) {
        x.clearBuffer();
        Check.type(x, text);
        int saved = x.savedStates();
        Check.fails("10: " + text, x, ARGUMENT, x::accept);
        Check.is("10: the buffer stays", x.clearBuffer(), text.length());
        Check.is("10: nothing is saved", x.savedStates(), saved);
    }

    private static void promise10Accept() {
        GlideShelves x = new GlideShelves();
        for (String text : new String[] {"", "0", "0*", "0*1,", "0*1,1", "0*1,1*", "0*0", "0*21", "1*1,0*1", "9*1,",
            "*", "0*1,0*1", "0*01", "x"}) {
            rejects(x, text);
        }
        Check.is("10: the first", Check.order(x, "0*1"), 0);
        Check.is("10: clears the buffer", x.clearBuffer(), 0);
        Check.is("10: undoable", x.savedStates(), 1);
        Check.is("10: all kinds", Check.order(x, "0*1,1*2,2*3,3*4,4*5,5*6,6*7,7*8,8*9,9*20"), 1);
        for (int kind = 0; kind < 10; kind++) {
            Check.is("10: wanted", x.wanted(1, kind), kind < 9 ? kind + 1 : 20);
            Check.is("10: wanted of the first", x.wanted(0, kind), kind == 0 ? 1 : 0);
        }
        Check.order(x, "3*10");
        Check.is("10: nothing of an order before", x.thingsOf(2), 10);
        for (int order = 3; order < 8; order++) {
            Check.is("10: the next", Check.order(x, "4*19"), order);
        }
        Check.type(x, "2*2");
        Check.fails("10: 8 orders", x, STATE, x::accept);
        Check.is("10: the buffer stays", x.firstError(), 3);
        Check.type(x, "2");
        Check.fails("10: the text, named before", x, ARGUMENT, x::accept);
        x.undo();
        Check.is("10: undone", x.orders(), 7);
        Check.is("10: the buffer stays at undo", x.clearBuffer(), 4);
    }

    public static void main(String[] args) {
        promise17And18Buffer();
        promise19FirstError();
        promise10Accept();
        Check.end("TextTest");
    }
}
