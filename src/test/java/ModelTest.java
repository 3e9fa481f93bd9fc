import java.lang.reflect.InvocationTargetException;
import java.lang.reflect.Method;
import java.util.ArrayList;
import java.util.Arrays;
import java.util.Comparator;
import java.util.List;
import java.util.Random;

/** Runs of calls, the same ones each time, whose answers are those of the model. */
public final class ModelTest {
    private static final int RUNS = 600;
    private static final int MOST_CALLS = 512;

    private final Random random;
    private final GlideShelves real = new GlideShelves();
    private final Model model = new Model();
    private final String run;
    private final List<Method> tellers;
    private final int mostShelves;
    private int calls = 0;

    private ModelTest(int seed, List<Method> tellers) {
        random = new Random(seed);
        run = "run " + seed;
        this.tellers = tellers;
        mostShelves = 1 + random.nextInt(15);
    }

    private static Object answer(Object target, String name, int[] numbers) {
        Class<?>[] types = new Class<?>[numbers.length];
        Arrays.fill(types, int.class);
        Object[] arguments = Arrays.stream(numbers).boxed().toArray();
        try {
            Object answer = target.getClass().getMethod(name, types).invoke(target, arguments);
            return answer instanceof Double ? (Object) Double.doubleToRawLongBits((Double) answer) : answer;
        } catch (InvocationTargetException e) {
            return e.getCause().getClass();
        } catch (ReflectiveOperationException e) {
            throw new IllegalStateException(e);
        }
    }

    private void call(String name, int... numbers) {
        if (calls < MOST_CALLS) {
            calls++;
            String what = run + ", call " + calls + ", " + name + Arrays.toString(numbers);
            Check.is(what, answer(real, name, numbers), answer(model, name, numbers));
        }
    }

    private int upTo(int most) {
        return random.nextInt(most + 1);
    }

    /** Mostly from the least to the most, now and then just outside or far away. */
    private int near(int least, int most) {
        int chance = random.nextInt(40);
        if (chance == 0) {
            return random.nextInt();
        }
        if (chance == 1) {
            return random.nextBoolean() ? least - 1 : most + 1;
        }
        return least + upTo(Math.max(0, most - least));
    }

    private int someShelf() {
        return near(0, model.shelves() - 1);
    }

    private int someOrder() {
        return near(0, model.orders() - 1);
    }

    private int someKind() {
        return random.nextInt(3) == 0 ? near(0, 9) : upTo(4);
    }

    private void appendOrder() {
        StringBuilder text = new StringBuilder();
        for (int kind = upTo(6); kind < 10 && (text.length() == 0 || upTo(2) > 0); kind += 1 + upTo(3)) {
            text.append(text.length() == 0 ? "" : ",").append(kind).append('*').append(1 + upTo(upTo(1) * 16 + 3));
        }
        if (upTo(3) == 0) {
            text.setCharAt(upTo(text.length() - 1), "0123459*,,+".charAt(upTo(10)));
        }
        if (upTo(9) == 0) {
            text.append("0,*9".charAt(upTo(3)));
        }
        for (int i = 0; i < text.length(); i++) {
            call("append", text.charAt(i));
        }
        call("firstError");
        call("accept");
        if (upTo(3) > 0) {
            call("clearBuffer");
        }
    }

    private void restock() {
        call("fetch", someShelf());
        for (int i = upTo(3); i >= 0; i--) {
            call("fill", someKind(), near(1, upTo(3) == 0 ? 20 : 7));
        }
        if (upTo(9) > 0) {
            call("stow");
        }
    }

    private void change() {
        switch (upTo(30)) {
            case 0, 1 -> call("addShelf", near(1, 4));
            case 2, 3 -> call("scrap", someShelf());
            case 4, 5 -> call("fetch", someShelf());
            case 6, 7, 8 -> call("stow");
            case 9 -> call("stowAt", near(0, 1), near(0, 19));
            case 10 -> call("pack");
            case 11 -> call("fill", someKind(), near(1, 20));
            case 12 -> call("take", someKind(), near(1, upTo(1) == 0 ? 20 : 3));
            case 13, 14, 15 -> appendOrder();
            case 16 -> call("cancel", someOrder());
            case 17 -> call("serve", someOrder());
            case 18 -> call(upTo(2) == 0 ? "serveAll" : "servable");
            case 19 -> call("changeLeast", someKind(), near(0, 99));
            case 20 -> call("changeWeight", someKind(), near(1, upTo(1) == 0 ? 9 : 3));
            case 21 -> call(upTo(1) == 0 ? "turnRule" : "isKeptPlace");
            case 22 -> call("append", near(33, 126));
            case 23 -> call(upTo(3) == 0 ? "clearBuffer" : "firstError");
            case 24 -> call("keep", near(0, 1));
            case 25 -> call(upTo(2) == 0 ? "goBack" : "keep", near(0, 1));
            case 26 -> call("undo");
            case 27 -> undoAll();
            default -> restock();
        }
    }

    private void undoAll() {
        for (int i = upTo(6) - 4; i >= 0; i--) {
            call("undo");
        }
        call("savedStates");
    }

    private void tell() {
        Method teller = tellers.get(random.nextInt(tellers.size()));
        int[] numbers = new int[teller.getParameterCount()];
        String name = teller.getName();
        boolean isOfSides = List.of("isFree", "shelfAt", "longestGap", "sideWeight").contains(name);
        for (int i = 0; i < numbers.length; i++) {
            if (isOfSides) {
                numbers[i] = i == 0 ? near(0, 1) : near(0, 19);
            } else {
                numbers[i] = near(0, i > 0 || name.contains("Kind") || name.contains("stock") ? 9 : upTo(1) * 4 + 5);
            }
        }
        call(name, numbers);
    }

    private void runAll() {
        for (int i = 0; i < mostShelves; i++) {
            call("addShelf", 1 + upTo(3));
        }
        for (int i = upTo(14); i > 0; i--) {
            restock();
        }
        while (calls < MOST_CALLS) {
            change();
            for (int i = upTo(3); i > 0; i--) {
                tell();
            }
            if (upTo(6) == 0) {
                call("digest");
            }
        }
    }

    private static List<Method> findTellers() {
        List<String> changers = List.of("addShelf", "scrap", "fetch", "stow", "stowAt", "pack", "fill", "take",
                "accept", "cancel", "serve", "serveAll", "changeLeast", "changeWeight", "turnRule", "append",
                "clearBuffer", "keep", "goBack", "undo", "digest");
        List<Method> tellers = new ArrayList<>();
        for (Method method : Model.class.getDeclaredMethods()) {
            boolean isPublic = java.lang.reflect.Modifier.isPublic(method.getModifiers());
            if (isPublic && !changers.contains(method.getName())) {
                tellers.add(method);
            }
        }
        tellers.sort(Comparator.comparing(Method::getName));
        return tellers;
    }

    public static void main(String[] args) {
        List<Method> tellers = findTellers();
        Check.is("the methods that tell", tellers.size(), 72 - 21);
        for (int seed = 0; seed < RUNS; seed++) {
            new ModelTest(seed, tellers).runAll();
        }
        Check.end("ModelTest");
    }
}
