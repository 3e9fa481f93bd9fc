/** Edges of the buffer and of orders as texts: promises 17 to 19, and the terms of the input text. */
public final class EdgeTextsTest {
    private EdgeTextsTest() {
    }

    private static GlideShelves filled(int length) {
        GlideShelves x = new GlideShelves();
        for (int i = 0; i < length; i++) {
            x.append('0' + i % 10);
        }
        return x;
    }

    private static void promise17() {
        Edge.of(17, "- `code`: the character code, 33 to 126");
        for (int code = 33; code <= 126; code++) {
            GlideShelves x = new GlideShelves();
            Edge.is("code " + code, x.append(code), 1);
        }
        Edge.of(17, "Throws `IllegalArgumentException` if code is not 33 to 126");
        int[] codes = Edge.outside(33, 126);
        Edge.refusesEach(Edge.ARGUMENT, GlideShelves::new, codes, GlideShelves::append);
        Edge.refusesEach(Edge.ARGUMENT, Edge::rich, codes, GlideShelves::append);
        Edge.refusesEach(Edge.ARGUMENT, Edge::rich, new int[] {0, 9, 10, 13, 128, 255, 256 + 48, 65536 + 48}, GlideShelves::append);
        // Named before the other one.
        Edge.refusesEach(Edge.ARGUMENT, () -> filled(60), codes, GlideShelves::append);
        Edge.of(17, "Throws `IllegalStateException` if the buffer has 60 characters");
        GlideShelves x = filled(58);
        Edge.is("the 59th", x.append(33), 59);
        Edge.is("the 60th", x.append(126), 60);
        Edge.refusesEach(Edge.STATE, () -> filled(60), new int[] {33, 48, 126}, GlideShelves::append);
        x.clearBuffer();
        Edge.is("after clearing", x.append(48), 1);
        Edge.of(17, "Returns the new length of the buffer.");
        GlideShelves y = new GlideShelves();
        for (int length = 1; length <= 60; length++) {
            Edge.is("length", y.append(48), length);
        }
        Edge.is("not undoable", y.savedStates(), 0);
        Edge.of(0, "The buffer has at most 60 characters.");
        Edge.is("all of them", y.clearBuffer(), 60);
    }

    private static void promise18() {
        Edge.of(18, "Returns the length that it had.");
        Edge.is("empty", new GlideShelves().clearBuffer(), 0);
        Edge.is("one", filled(1).clearBuffer(), 1);
        Edge.is("full", filled(60).clearBuffer(), 60);
        GlideShelves x = filled(60);
        x.clearBuffer();
        Edge.is("once more", x.clearBuffer() + " " + x.firstError() + " " + x.savedStates(), "0 0 0");
    }

    /** Each character behind the text, which has no error: an error just if it is none of the allowed ones. */
    private static void allows(String text, String allowed) {
        for (int code = 33; code <= 126; code++) {
            GlideShelves x = Edge.typed(text);
            x.append(code);
            int due = allowed.indexOf(code) >= 0 ? text.length() + 1 : text.length();
            Edge.is(text + " and " + (char) code, x.firstError(), due);
        }
    }

    private static void promise19Empty() {
        Edge.of(19, "Returns the index of the first character that is a syntax error; the length of the buffer if there is none.");
        Edge.is("empty", new GlideShelves().firstError(), 0);
        Edge.is("no error", Edge.typed("0*1").firstError(), 3);
        Edge.is("the longest order", Edge.typed(Edge.ALL_KINDS).firstError(), 49);
        Edge.is("the first character", filled(60).firstError(), 1);
        Edge.is("behind the longest order", Edge.typed(Edge.ALL_KINDS + ",0*1").firstError(), 49);
        Edge.is("a full buffer", Edge.typed(Edge.ALL_KINDS + "00000000000").firstError(), 49);
        Edge.is("the first one of several", Edge.typed("x*y").firstError(), 0);
        Edge.is("not the later one", Edge.typed("0**,").firstError(), 2);
        Edge.is("right characters behind an error do not mend it", Edge.typed("0*0*1").firstError(), 2);
        Edge.changesNothing("telling", () -> filled(60), GlideShelves::firstError);
        Edge.changesNothing("telling of a right one", () -> Edge.typed(Edge.ALL_KINDS), GlideShelves::firstError);
    }

    private static void termsOfKinds() {
        Edge.of(0, "the digit of a kind, 0 to 9, \"*\", and 1 to 20 without leading zeros");
        allows("", "0123456789");
        for (int kind = 0; kind < 10; kind++) {
            allows(kind + "", "*");
            allows(kind + "*", "123456789");
        }
        allows("4*1", "0123456789,");
        allows("4*2", "0,");
        for (int digit = 3; digit <= 9; digit++) {
            allows("4*" + digit, ",");
        }
        for (int many = 10; many <= 20; many++) {
            allows("4*" + many, ",");
        }
        allows("0*1,3", "*");
        allows("0*1,3*", "123456789");
        allows("0*1,3*1", "0123456789,");
        allows("0*1,3*2", "0,");
        allows("0*20,3*20", ",");
    }

    private static void termsOfRising() {
        Edge.of(0, "the kinds rise from part to part");
        for (int kind = 0; kind < 9; kind++) {
            allows(kind + "*5,", "0123456789".substring(kind + 1));
            allows(kind + "*10,", "0123456789".substring(kind + 1));
        }
        allows("0*1,4*1,", "56789");
        allows("0*1,8*1,", "9");
        Edge.of(0, "(So behind the number of the kind 9 there is no \",\".)");
        allows("9*1", "0123456789");
        allows("9*2", "0");
        allows("9*9", "");
        allows("9*10", "");
        allows("9*20", "");
        allows("8*1,9*1", "0123456789");
        allows("8*20,9*20", "");
        allows(Edge.ALL_KINDS, "");
        allows(Edge.ALL_KINDS.substring(0, 48), "0");
    }

    private static void termsOfErrors() {
        Edge.of(0, "The buffer is read from left to right; a character is a syntax error if no order as a text, of any length,"
                + " begins with the characters before it and this character.");
        // These begin orders that go on, so that none of their characters is an error.
        for (int length = 0; length <= 49; length++) {
            String start = Edge.ALL_KINDS.substring(0, length);
            Edge.is(start, Edge.typed(start).firstError(), length);
        }
        Edge.is("in the last place of a full buffer", Edge.typed("9" + "9".repeat(59)).firstError(), 1);
        // Read on its own, the second part would be right.
        Edge.is("a falling kind", Edge.typed("5*1,4*1").firstError(), 4);
        Edge.is("the same kind", Edge.typed("5*1,5*1").firstError(), 4);
        Edge.is("a falling kind in the third part", Edge.typed("5*1,7*1,6*1").firstError(), 8);
        Edge.is("a kind below the first one in the third part", Edge.typed("5*1,7*1,5*1").firstError(), 8);
    }

    public static void main(String[] args) {
        promise17();
        promise18();
        promise19Empty();
        termsOfKinds();
        termsOfRising();
        termsOfErrors();
        Edge.end("EdgeTextsTest");
    }
}
