import java.util.ArrayList;
import java.util.HashMap;
import java.util.HashSet;
import java.util.List;
import java.util.Map;
import java.util.NoSuchElementException;
import java.util.Set;
import java.util.TreeMap;

/** The document once more, as plainly as the Java library allows, for comparing with Sendhouse. */
public final class Model {
    private record Value(char kind, int number) { }

    private record Row(char letter, int a, int b) { }

    private static final class Kind {
        Kind above;
        int number;
        int fields;
        Map<Integer, Method> methods = new HashMap<>();

        Method lookUp(int selector) {
            Method own = methods.get(selector);
            return own != null ? own : above == null ? null : above.lookUp(selector);
        }
    }

    private static final class Method {
        Kind kind;
        int selector;
        int arguments;
        int temporaries;
        List<Row> rows;
        Map<Integer, Integer> depths;
        int calls;
        boolean compiled;
    }

    private static final class Thing {
        Kind kind;
        Value[] fields;
    }

    private static final class Frame {
        Method method;
        int row;
        Value receiver;
        Value[] arguments;
        Value[] temporaries;
        List<Value> pile = new ArrayList<>();

        Value top(int below) {
            return pile.get(pile.size() - 1 - below);
        }

        Value pop() {
            return pile.remove(pile.size() - 1);
        }

        Row at() {
            return method.rows.get(row);
        }
    }

    private static final class Fault extends Exception {
        private static final long serialVersionUID = 1L;
        final char why;

        Fault(char why) {
            this.why = why;
        }
    }

    private static final Value NOTHING = new Value('u', 0);

    private final List<Kind> kinds = new ArrayList<>();
    private List<Row> typed = new ArrayList<>();
    private int hot;
    private final Value[] globals = new Value[8];
    private final TreeMap<Integer, Thing> things = new TreeMap<>();
    private int made;
    private final List<Frame> frames = new ArrayList<>();
    private char state = '-';
    private char reason;
    private Value answer;
    private int steps;
    private final List<Value> written = new ArrayList<>();

    public Model() {
        for (int i = 0; i < 3; i++) {
            Kind kind = new Kind();
            kind.number = i;
            kind.above = i == 0 ? null : kinds.get(0);
            kinds.add(kind);
        }
        java.util.Arrays.fill(globals, NOTHING);
    }

    private static void out(boolean wrong) {
        if (wrong) {
            throw new IndexOutOfBoundsException();
        }
    }

    private static void argument(boolean wrong) {
        if (wrong) {
            throw new IllegalArgumentException();
        }
    }

    private static void state(boolean wrong) {
        if (wrong) {
            throw new IllegalStateException();
        }
    }

    private static void none(boolean wrong) {
        if (wrong) {
            throw new NoSuchElementException();
        }
    }

    private static void unsupported(boolean wrong) {
        if (wrong) {
            throw new UnsupportedOperationException();
        }
    }

    private static boolean in(int number, int from, int to) {
        return from <= number && number <= to;
    }

    public int add(int above, int fields) {
        out(!in(above, 0, kinds.size() - 1));
        argument(above == 1 || above == 2 || !in(fields, 0, 4) || kinds.get(above).fields + fields > 8);
        state(kinds.size() == 12);
        Kind kind = new Kind();
        kind.number = kinds.size();
        kind.above = kinds.get(above);
        kind.fields = kind.above.fields + fields;
        kinds.add(kind);
        return kind.number;
    }

    public int classes() {
        return kinds.size();
    }

    public int fields(int cls) {
        out(!in(cls, 0, kinds.size() - 1));
        return kinds.get(cls).fields;
    }

    public int row(char letter, int a, int b) {
        argument("nusatfgTFGdp+-*/<=kcmMjyrw".indexOf(letter) < 0);
        state(typed.size() == 24);
        typed.add(new Row(letter, a, b));
        return typed.size();
    }

    public int wipe() {
        int were = typed.size();
        typed.clear();
        return were;
    }

    public int method(int cls, int selector, int arguments, int temporaries) {
        out(!in(cls, 0, kinds.size() - 1) || !in(selector, 0, 15));
        argument(!in(arguments, 0, 2) || !in(temporaries, 0, 4));
        Method method = new Method();
        method.kind = kinds.get(cls);
        method.selector = selector;
        method.arguments = arguments;
        method.temporaries = temporaries;
        method.rows = typed;
        method.depths = new HashMap<>();
        unsupported(!walk(method, 0, 0));
        typed = new ArrayList<>();
        method.kind.methods.put(selector, method);
        return method.rows.size();
    }

    /** Walks all ways from a row on, and tells whether each is well told. */
    private boolean walk(Method method, int row, int depth) {
        if (!in(row, 0, method.rows.size() - 1) || depth > 8) {
            return false;
        }
        if (method.depths.containsKey(row)) {
            return method.depths.get(row) == depth;
        }
        method.depths.put(row, depth);
        Row at = method.rows.get(row);
        if (!named(method, at)) {
            return false;
        }
        int needs = "+-*/<=".indexOf(at.letter) >= 0 ? 2
                : "mM".indexOf(at.letter) >= 0 ? at.b + 1
                : "TFGdpkyrw".indexOf(at.letter) >= 0 ? 1 : 0;
        int less = "TFGpyw".indexOf(at.letter) >= 0 ? 1 : at.letter == 'd' ? 0 : needs;
        int more = "TFGpywj".indexOf(at.letter) >= 0 ? 0 : 1;
        if (depth < needs) {
            return false;
        }
        int then = depth - less + more;
        switch (at.letter) {
            case 'r':
                return true;
            case 'j':
                return walk(method, at.a, then);
            case 'y':
                return walk(method, row + 1, then) && walk(method, at.a, then);
            default:
                return walk(method, row + 1, then);
        }
    }

    private boolean named(Method method, Row at) {
        switch (at.letter) {
            case 'a':
                return in(at.a, 0, method.arguments - 1);
            case 't':
            case 'T':
                return in(at.a, 0, method.temporaries - 1);
            case 'f':
            case 'F':
                return in(at.a, 0, method.kind.fields - 1);
            case 'g':
            case 'G':
                return in(at.a, 0, 7);
            case 'c':
                return at.a == 0 || in(at.a, 3, kinds.size() - 1);
            case 'm':
            case 'M':
                return in(at.a, 0, 15) && in(at.b, 0, 2);
            default:
                return true;
        }
    }

    private Method told(int cls, int selector) {
        out(!in(cls, 0, kinds.size() - 1) || !in(selector, 0, 15));
        Method method = kinds.get(cls).methods.get(selector);
        none(method == null);
        return method;
    }

    private List<Method> allTold() {
        List<Method> all = new ArrayList<>();
        for (Kind kind : kinds) {
            all.addAll(kind.methods.values());
        }
        return all;
    }

    public int remove(int cls, int selector) {
        Method method = told(cls, selector);
        kinds.get(cls).methods.remove(selector);
        return method.calls;
    }

    public int find(int cls, int selector) {
        out(!in(cls, 0, kinds.size() - 1) || !in(selector, 0, 15));
        Method method = kinds.get(cls).lookUp(selector);
        none(method == null);
        return method.kind.number;
    }

    /** How many arguments a send takes, -1 if none is found: for the tests to begin what can begin. */
    int takes(int cls, int selector) {
        Method method = kinds.get(cls).lookUp(selector);
        return method == null ? -1 : method.arguments;
    }

    public int calls(int cls, int selector) {
        return told(cls, selector).calls;
    }

    public int compile(int cls, int selector) {
        told(cls, selector).compiled = true;
        return (int) allTold().stream().filter(m -> m.compiled).count();
    }

    public boolean isCompiled(int cls, int selector) {
        return told(cls, selector).compiled;
    }

    public int hot(int calls) {
        argument(!in(calls, 0, 99));
        int before = hot;
        hot = calls;
        return before;
    }

    public int number(int global, int number) {
        out(!in(global, 0, 7));
        globals[global] = new Value('n', number);
        return things.size();
    }

    public int nothing(int global) {
        out(!in(global, 0, 7));
        globals[global] = NOTHING;
        return things.size();
    }

    public int make(int global, int cls) {
        out(!in(global, 0, 7) || !in(cls, 0, kinds.size() - 1));
        argument(cls == 1 || cls == 2);
        state(things.size() == 60);
        globals[global] = newThing(cls);
        return globals[global].number;
    }

    private Value newThing(int cls) {
        Thing thing = new Thing();
        thing.kind = kinds.get(cls);
        thing.fields = nothings(thing.kind.fields);
        things.put(made, thing);
        return new Value('o', made++);
    }

    private static Value[] nothings(int many) {
        Value[] all = new Value[many];
        java.util.Arrays.fill(all, NOTHING);
        return all;
    }

    public char kind(int global) {
        out(!in(global, 0, 7));
        return globals[global].kind;
    }

    public int value(int global) {
        out(!in(global, 0, 7));
        return globals[global].number;
    }

    public int classOf(int thing) {
        out(!things.containsKey(thing));
        return things.get(thing).kind.number;
    }

    private Value field(int thing, int field) {
        out(!things.containsKey(thing) || !in(field, 0, things.get(thing).kind.fields - 1));
        return things.get(thing).fields[field];
    }

    public char fieldKind(int thing, int field) {
        return field(thing, field).kind;
    }

    public int fieldValue(int thing, int field) {
        return field(thing, field).number;
    }

    public int things() {
        return things.size();
    }

    private List<Value> roots() {
        List<Value> roots = new ArrayList<>(List.of(globals));
        for (Frame frame : frames) {
            roots.addAll(places(frame));
        }
        if (state == 'r') {
            roots.add(answer);
        }
        return roots;
    }

    private static List<Value> places(Frame frame) {
        List<Value> all = new ArrayList<>();
        all.add(frame.receiver);
        all.addAll(List.of(frame.arguments));
        all.addAll(List.of(frame.temporaries));
        all.addAll(frame.pile);
        return all;
    }

    public int collect() {
        Set<Integer> reached = new HashSet<>();
        for (Value root : roots()) {
            reach(root, reached);
        }
        int before = things.size();
        things.keySet().retainAll(reached);
        return before - things.size();
    }

    private void reach(Value value, Set<Integer> reached) {
        if (value.kind == 'o' && reached.add(value.number)) {
            for (Value field : things.get(value.number).fields) {
                reach(field, reached);
            }
        }
    }

    private Kind kindOf(Value value) {
        return value.kind == 'n' ? kinds.get(1) : value.kind == 'u' ? kinds.get(2) : things.get(value.number).kind;
    }

    private void open(Method method, Value receiver, Value[] arguments) {
        Frame frame = new Frame();
        frame.method = method;
        frame.receiver = receiver;
        frame.arguments = arguments;
        frame.temporaries = nothings(method.temporaries);
        frames.add(frame);
        method.calls++;
        method.compiled |= hot > 0 && method.calls >= hot;
    }

    public int begin(int global, int selector, int arguments, int x, int y) {
        out(!in(global, 0, 7) || !in(selector, 0, 15));
        argument(!in(arguments, 0, 2));
        state(state == 's');
        Method method = kindOf(globals[global]).lookUp(selector);
        unsupported(method == null || method.arguments != arguments);
        frames.clear();
        Value[] both = {new Value('n', x), new Value('n', y)};
        open(method, globals[global], java.util.Arrays.copyOf(both, arguments));
        state = 's';
        return method.kind.number;
    }

    public int go(int most) {
        argument(!in(most, 1, 500));
        state(state != 's');
        int done = 0;
        while (state == 's') {
            Frame frame = frames.get(frames.size() - 1);
            if (isStep(frame)) {
                if (done == most) {
                    break;
                }
                done++;
                steps++;
            }
            try {
                perform(frame);
            } catch (Fault fault) {
                state = 'x';
                reason = fault.why;
            }
        }
        return done;
    }

    private static boolean isStep(Frame frame) {
        Row at = frame.at();
        boolean up = at.a <= frame.row;
        return at.letter == 'm' || at.letter == 'M' || at.letter == 'j' && up
                || at.letter == 'y' && up && frame.top(0).kind == 'n' && frame.top(0).number != 0;
    }

    private static int number(Value value) throws Fault {
        if (value.kind != 'n') {
            throw new Fault('k');
        }
        return value.number;
    }

    private Thing receiver(Frame frame, int field) throws Fault {
        Thing thing = frame.receiver.kind == 'o' ? things.get(frame.receiver.number) : null;
        if (thing == null || field >= thing.fields.length) {
            throw new Fault('k');
        }
        return thing;
    }

    private void perform(Frame frame) throws Fault {
        Row at = frame.at();
        switch (at.letter) {
            case 'n' -> frame.pile.add(new Value('n', at.a));
            case 'u' -> frame.pile.add(NOTHING);
            case 's' -> frame.pile.add(frame.receiver);
            case 'a' -> frame.pile.add(frame.arguments[at.a]);
            case 't' -> frame.pile.add(frame.temporaries[at.a]);
            case 'f' -> frame.pile.add(receiver(frame, at.a).fields[at.a]);
            case 'g' -> frame.pile.add(globals[at.a]);
            case 'T' -> frame.temporaries[at.a] = frame.pop();
            case 'F' -> receiver(frame, at.a).fields[at.a] = frame.pop();
            case 'G' -> globals[at.a] = frame.pop();
            case 'd' -> frame.pile.add(frame.top(0));
            case 'p' -> frame.pop();
            case '+', '-', '*', '/', '<' -> replaceTwo(frame, reckoned(frame, at.letter));
            case '=' -> replaceTwo(frame, frame.top(0).equals(frame.top(1)) ? 1 : 0);
            case 'k' -> frame.pile.add(new Value('n', kindOf(frame.pop()).number));
            case 'c' -> makeThing(frame, at.a);
            case 'w' -> written.add(frame.pop());
            case 'j' -> frame.row = at.a - 1;
            case 'y' -> {
                boolean there = number(frame.top(0)) != 0;
                frame.pop();
                frame.row = there ? at.a - 1 : frame.row;
            }
            case 'r' -> {
                giveBack(frame);
                return;
            }
            default -> {
                send(frame, at);
                return;
            }
        }
        frame.row++;
    }

    private void makeThing(Frame frame, int cls) throws Fault {
        if (things.size() == 60) {
            throw new Fault('m');
        }
        frame.pile.add(newThing(cls));
    }

    private static void replaceTwo(Frame frame, int outcome) {
        frame.pop();
        frame.pop();
        frame.pile.add(new Value('n', outcome));
    }

    private static int reckoned(Frame frame, char letter) throws Fault {
        int second = number(frame.top(0));
        int first = number(frame.top(1));
        if (letter == '/' && second == 0) {
            throw new Fault('z');
        }
        return switch (letter) {
            case '+' -> first + second;
            case '-' -> first - second;
            case '*' -> first * second;
            case '/' -> first / second;
            default -> first < second ? 1 : 0;
        };
    }

    private void giveBack(Frame frame) {
        Value value = frame.pop();
        frames.remove(frames.size() - 1);
        if (frames.isEmpty()) {
            state = 'r';
            answer = value;
            return;
        }
        Frame waiting = frames.get(frames.size() - 1);
        waiting.pile.add(value);
        waiting.row++;
    }

    private void send(Frame frame, Row at) throws Fault {
        Kind kind = at.letter == 'M' ? frame.method.kind.above : kindOf(frame.top(at.b));
        Method method = kind == null ? null : kind.lookUp(at.a);
        if (method == null || method.arguments != at.b) {
            throw new Fault('u');
        }
        if (frames.size() == 12) {
            throw new Fault('d');
        }
        Value[] arguments = new Value[at.b];
        for (int i = at.b - 1; i >= 0; i--) {
            arguments[i] = frame.pop();
        }
        open(method, frame.pop(), arguments);
    }

    public int end() {
        state(frames.isEmpty());
        int were = frames.size();
        frames.clear();
        state = '-';
        return were;
    }

    public char state() {
        return state;
    }

    public char reason() {
        none(state != 'x');
        return reason;
    }

    public char answerKind() {
        none(state != 'r');
        return answer.kind;
    }

    public int answer() {
        none(state != 'r');
        return answer.number;
    }

    public int steps() {
        return steps;
    }

    public int frames() {
        return frames.size();
    }

    public int frame(int frame, char what) {
        out(!in(frame, 0, frames.size() - 1));
        Frame it = frames.get(frame);
        return switch (what) {
            case 'c' -> it.method.kind.number;
            case 's' -> it.method.selector;
            case 'r' -> it.row;
            case 'd' -> it.pile.size();
            default -> throw new IllegalArgumentException();
        };
    }

    private Value place(int frame, char what, int index) {
        out(!in(frame, 0, frames.size() - 1));
        argument("satp".indexOf(what) < 0);
        Frame it = frames.get(frame);
        List<Value> all = what == 'a' ? List.of(it.arguments) : what == 't' ? List.of(it.temporaries) : it.pile;
        none(what != 's' && !in(index, 0, all.size() - 1));
        return what == 's' ? it.receiver : all.get(index);
    }

    public char slotKind(int frame, char what, int index) {
        return place(frame, what, index).kind;
    }

    public int slot(int frame, char what, int index) {
        return place(frame, what, index).number;
    }

    public int written() {
        return written.size();
    }

    public char writtenKind(int index) {
        none(!in(index, 0, written.size() - 1));
        return written.get(index).kind;
    }

    public int writtenValue(int index) {
        none(!in(index, 0, written.size() - 1));
        return written.get(index).number;
    }

    public float compiledShare() {
        if (allTold().isEmpty()) {
            throw new ArithmeticException();
        }
        return (float) allTold().stream().filter(m -> m.compiled).count() / (float) allTold().size();
    }

    public double meanCalls() {
        if (allTold().isEmpty()) {
            throw new ArithmeticException();
        }
        return (double) allTold().stream().mapToLong(m -> m.calls).sum() / (double) allTold().size();
    }

    public long checksum() {
        List<Long> all = new ArrayList<>();
        all.add((long) steps);
        list(all, List.of(globals));
        things.forEach((number, thing) -> {
            all.add((long) number);
            all.add((long) thing.kind.number);
            list(all, List.of(thing.fields));
        });
        all.add((long) state);
        for (Frame frame : frames) {
            all.add((long) frame.method.kind.number);
            all.add((long) frame.method.selector);
            all.add((long) frame.row);
            list(all, places(frame));
        }
        list(all, written);
        long sum = 7;
        for (long each : all) {
            sum = 31 * sum + each;
        }
        return sum;
    }

    private static void list(List<Long> all, List<Value> values) {
        for (Value value : values) {
            all.add((long) value.kind);
            all.add((long) value.number);
        }
    }

    public boolean isSound() {
        for (Value root : roots()) {
            if (root.kind == 'o' && !things.containsKey(root.number)) {
                return false;
            }
        }
        Frame last = frames.isEmpty() ? null : frames.get(frames.size() - 1);
        return last == null || last.method.depths.get(last.row) == last.pile.size();
    }
}
