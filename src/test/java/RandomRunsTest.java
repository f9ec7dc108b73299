import java.lang.reflect.InvocationTargetException;
import java.lang.reflect.Method;
import java.util.ArrayList;
import java.util.HashMap;
import java.util.List;
import java.util.Map;
import java.util.Random;
import java.util.TreeMap;

/** Long runs of calls, each answered by Sendhouse and by the Model; the seeds are fixed, so each run is always the same. */
public final class RandomRunsTest {
    private static final int CALLS = 512;
    private static final Map<String, Method> FACE = new HashMap<>();
    private static final TreeMap<String, Integer> SEEN = new TreeMap<>();

    private final Random random;
    private final Sendhouse house = new Sendhouse();
    private final Model model = new Model();
    private final List<String> told = new ArrayList<>();
    private int calls = 0;
    private boolean same = true;

    private RandomRunsTest(long seed) {
        random = new Random(seed);
    }

    public static void main(String[] args) {
        int runs = args.length > 0 ? Integer.parseInt(args[0]) : 1500;
        int from = args.length > 1 ? Integer.parseInt(args[1]) : 0;
        for (Method method : Sendhouse.class.getDeclaredMethods()) {
            if (java.lang.reflect.Modifier.isPublic(method.getModifiers())) {
                FACE.put(method.getName(), method);
            }
        }
        for (int seed = from; seed < from + runs; seed++) {
            RandomRunsTest run = new RandomRunsTest(seed);
            run.play();
            if (!run.same) {
                run.told.forEach(System.out::println);
                System.out.println("seed " + seed + " differs at the last call");
                System.exit(1);
            }
        }
        System.out.println("RandomRunsTest: " + runs + " runs are the same");
        if (args.length > 2) {
            SEEN.forEach((what, often) -> System.out.println(what + " " + often));
        }
    }

    private void play() {
        for (int i = 2 + below(4); i > 0; i--) {
            call("add", below(3) == 0 ? 0 : 3 + below(3), below(4));
        }
        for (int i = 3 + below(5); i > 0; i--) {
            program();
        }
        while (calls < CALLS && same) {
            turn();
        }
    }

    private void turn() {
        switch (below(24)) {
            case 0, 1 -> program();
            case 2 -> strayRow();
            case 3, 4 -> begin();
            case 5 -> call("begin", below(8), below(4), below(3), few(), few());
            case 6, 7, 8 -> go();
            case 9 -> call("make", below(8), someClass());
            case 10 -> call(below(2) == 0 ? "number" : "nothing", below(8), few());
            case 11 -> call("collect");
            case 12 -> call(below(3) == 0 ? "end" : "things");
            case 13 -> call("hot", below(3) == 0 ? below(99) : below(4));
            case 14 -> call("compile", someClass(), below(4));
            case 15 -> call(below(4) == 0 ? "remove" : "find", someClass(), below(5));
            case 16 -> call("calls", someClass(), below(5));
            case 17 -> call("isCompiled", someClass(), below(5));
            case 18 -> call(below(2) == 0 ? "fieldKind" : "fieldValue", below(12), below(5));
            case 19 -> frameCall();
            case 20 -> figure();
            case 21 -> any();
            case 22 -> call("checksum");
            default -> look();
        }
    }

    /** Begins a run where one can begin. */
    private void begin() {
        if (model.state() == 's' && below(2) == 0) {
            call("end");
        }
        int from = below(96);
        for (int i = 0; i < 96; i++) {
            int at = (from + i) % 96;
            if (canBegin(at % 8, at / 8 % 4, at / 32)) {
                call("begin", at % 8, at / 8 % 4, at / 32, few(), few());
                go();
                return;
            }
        }
    }

    private boolean canBegin(int global, int selector, int arguments) {
        int cls = model.kind(global) == 'n' ? 1 : model.kind(global) == 'u' ? 2 : model.classOf(model.value(global));
        return model.state() != 's' && model.takes(cls, selector) == arguments;
    }

    private void go() {
        call("go", 1 + below(below(3) == 0 ? 500 : 6));
        call("state");
        call(model.state() == 'x' ? "reason" : "answer");
        for (int i = 0; i < model.frames() && below(3) != 0; i++) {
            frameCall();
        }
        compareAll();
    }

    private void frameCall() {
        call("frame", below(4), "csrdx".charAt(below(5)));
        call(below(2) == 0 ? "slotKind" : "slot", below(4), "satpx".charAt(below(5)), below(4));
    }

    private void figure() {
        String[] names = {"compiledShare", "meanCalls", "checksum", "isSound", "steps", "state", "reason", "answer",
            "answerKind", "written", "frames"};
        call(names[below(names.length)]);
    }

    /** Any call with any numbers: mostly wrong ones. */
    private void any() {
        List<String> names = new ArrayList<>(new TreeMap<>(FACE).keySet());
        Method method = FACE.get(names.get(below(names.size())));
        Object[] numbers = new Object[method.getParameterCount()];
        for (int i = 0; i < numbers.length; i++) {
            boolean letter = method.getParameterTypes()[i] == char.class;
            numbers[i] = letter ? (Object) (char) (33 + below(100)) : (Object) some();
        }
        call(method.getName(), numbers);
    }

    private int some() {
        int[] all = {-1, 0, 1, 2, 3, 5, 8, 12, 16, 24, 60, 99, 100, 500, 501, Integer.MAX_VALUE, Integer.MIN_VALUE};
        return all[below(all.length)];
    }

    /** All that can be seen must be the same. */
    private void look() {
        call("checksum");
        call("isSound");
        for (int global = 0; global < 8 && calls < CALLS; global++) {
            call("kind", global);
            call("value", global);
        }
        call("frames");
        call("written");
    }

    private int below(int bound) {
        return random.nextInt(bound);
    }

    private int few() {
        return below(20) == 0 ? some() : below(9) - 2;
    }

    private int someClass() {
        return below(20) == 0 ? below(12) : below(3) == 0 ? below(3) : below(model.classes());
    }

    private void strayRow() {
        call("row", "nusatfgTFGdp+-*/<=kcmMjyrwx".charAt(below(27)), few(), few());
        if (below(2) == 0) {
            call("wipe");
        }
    }

    /** Types some rows, mostly well told ones, and tells a method of them. */
    private void program() {
        if (below(10) != 0) {
            call("wipe");
        }
        int cls = someClass();
        int fields = cls < model.classes() ? model.fields(cls) : 0;
        int arguments = below(3);
        int temporaries = below(5);
        int[] depths = new int[26];
        int depth = 0;
        int rows = 2 + below(below(4) == 0 ? 21 : 9);
        int row = 0;
        while (row < rows) {
            depths[row++] = depth;
            depth = typeSome(depth, row - 1, depths, arguments, temporaries, fields);
        }
        if (depth == 0) {
            depths[row++] = depth++;
            call("row", "us".charAt(below(2)), 0, 0);
        }
        call("row", 'r', 0, 0);
        call("method", cls, below(4), below(20) == 0 ? below(4) : arguments, below(20) == 0 ? below(6) : temporaries);
    }

    private int typeSome(int depth, int row, int[] depths, int arguments, int temporaries, int fields) {
        String puts = "nnnussggcc" + (arguments > 0 ? "aa" : "") + (temporaries > 0 ? "tt" : "") + (fields > 0 ? "fff" : "");
        String takes = "GGpww" + (temporaries > 0 ? "TTT" : "") + (fields > 0 ? "FFFF" : "");
        String twos = "+-*/<=";
        int choice = below(20);
        if (depth >= 2 && choice < 5) {
            call("row", twos.charAt(below(6)), few(), few());
            return depth - 1;
        }
        if (depth >= 1 && choice < 8) {
            char letter = takes.charAt(below(takes.length()));
            int bound = letter == 'T' ? temporaries : letter == 'F' ? fields : 3;
            call("row", letter, below(bound), 0);
            return depth - 1;
        }
        if (depth >= 1 && choice < 9) {
            call("row", 'k', 0, 0);
            return depth;
        }
        if (depth >= 1 && depth < 7 && choice < 10) {
            call("row", 'd', 0, 0);
            return depth + 1;
        }
        if (depth >= 1 && choice < 14) {
            int sent = Math.min(depth - 1, below(3));
            call("row", below(3) == 0 ? 'M' : 'm', below(4), sent);
            return depth - sent;
        }
        if (choice < 16) {
            boolean y = depth >= 1;
            int target = target(y ? depth - 1 : depth, row, depths);
            if (target >= 0) {
                call("row", y ? 'y' : 'j', target, 0);
                return y ? depth - 1 : depth;
            }
        }
        if (depth >= 7) {
            call("row", 'p', 0, 0);
            return depth - 1;
        }
        char letter = puts.charAt(below(puts.length()));
        int bound = letter == 'a' ? arguments : letter == 't' ? temporaries : letter == 'f' ? fields : 4;
        call("row", letter, letter == 'n' ? few() : below(bound), 0);
        return depth + 1;
    }

    /** A row that has this depth, or the next row, or none. */
    private int target(int depth, int row, int[] depths) {
        int from = below(row + 1);
        for (int i = 0; i <= row; i++) {
            int at = (from + i) % (row + 1);
            if (depths[at] == depth && below(2) == 0) {
                return at;
            }
        }
        return below(3) == 0 ? row + 1 : -1;
    }

    /** All that can be seen, which is not counted as calls, since it changes nothing. */
    private void compareAll() {
        for (int frame = 0; frame < model.frames(); frame++) {
            for (char what : "csrd".toCharArray()) {
                compare("frame", frame, what);
            }
            for (char what : "satp".toCharArray()) {
                for (int i = 0; i < 9; i++) {
                    compare("slotKind", frame, what, i);
                    compare("slot", frame, what, i);
                }
            }
        }
        for (int cls = 0; cls < model.classes(); cls++) {
            for (int selector = 0; selector < 5; selector++) {
                compare("calls", cls, selector);
                compare("isCompiled", cls, selector);
            }
        }
        for (int i = Math.max(0, model.written() - 20); i <= model.written(); i++) {
            compare("writtenKind", i);
            compare("writtenValue", i);
        }
        for (String name : List.of("checksum", "isSound", "answer", "answerKind", "reason", "things", "meanCalls")) {
            compare(name);
        }
    }

    private void compare(String name, Object... numbers) {
        if (same) {
            told.add(name + java.util.Arrays.toString(numbers));
            Class<?>[] types = FACE.get(name).getParameterTypes();
            same = answer(model, name, types, numbers).equals(answer(house, name, types, numbers));
        }
    }

    private void call(String name, Object... numbers) {
        if (calls >= CALLS || !same) {
            return;
        }
        calls++;
        Class<?>[] types = FACE.get(name).getParameterTypes();
        Object[] given = java.util.Arrays.copyOf(numbers, types.length);
        String due = answer(model, name, types, given);
        String got = answer(house, name, types, given);
        told.add(name + java.util.Arrays.toString(given) + " -> " + got + ", due " + due);
        String all = name + (due.startsWith("throws") ? " " + due : "");
        if (name.equals("reason")) {
            all = name + " " + due;
        }
        SEEN.merge(all, 1, Integer::sum);
        same = due.equals(got);
        if (same && (calls % 16 == 0 || due.startsWith("throws"))) {
            same = house.checksum() == model.checksum() && house.isSound() && model.isSound();
        }
    }

    private static String answer(Object of, String name, Class<?>[] types, Object[] numbers) {
        try {
            return String.valueOf(of.getClass().getMethod(name, types).invoke(of, numbers));
        } catch (InvocationTargetException e) {
            return "throws " + e.getCause().getClass().getSimpleName();
        } catch (ReflectiveOperationException e) {
            throw new IllegalStateException(e);
        }
    }
}
