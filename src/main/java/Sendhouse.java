import java.util.ArrayList;
import java.util.Arrays;
import java.util.NoSuchElementException;

/**
 * A house of objects that send to each other: classes, methods of plain rows over a pile, a run that goes on
 * by so many steps, and things that are gone when nothing reaches them.
 */
public final class Sendhouse {
    private static final int MOST_CLASSES = 12;
    private static final int OWN_FIELDS = 4;
    private static final int MOST_FIELDS = 8;
    private static final int SELECTORS = 16;
    private static final int MOST_ARGUMENTS = 2;
    private static final int MOST_TEMPORARIES = 4;
    private static final int MOST_ROWS = 24;
    private static final int MOST_ON_PILE = 8;
    private static final int GLOBALS = 8;
    private static final int MOST_THINGS = 60;
    private static final int MOST_FRAMES = 12;
    private static final int MOST_STEPS = 500;
    private static final int MOST_HOT = 99;

    private static final int CLASS_OF_NUMBERS = 1;
    private static final int CLASS_OF_NOTHING = 2;
    private static final int NO_CLASS = -1;
    private static final int NOT_COME_TO = -1;

    private static final char NONE_BEGUN = '-';
    private static final char STANDS = 's';
    private static final char ANSWERED = 'r';
    private static final char FAULTY = 'x';

    // A value is one long, its kind above its number: so equal values are equal longs, and no value is an object.
    private static final long NOTHING = (long) 'u' << 32;
    private static final long LOWER_HALF = 0xFFFFFFFFL;

    // A go comes to some 24 * (500 + 12) rows at most.
    private static final int MORE_ROWS_THAN_A_GO_HAS = 1000000;

    // 512 calls of at most 24 * 501 rows, of which at most each second one writes, fill about 6,000 pages.
    private static final int PAGE_SIZE = 512;
    private static final int MOST_PAGES = 6400;

    private final Classes classes = new Classes();
    private final Told[] methods = new Told[MOST_CLASSES * SELECTORS];
    private Rows typed = new Rows();
    private int hot = 0;
    private final long[] globals = new long[GLOBALS];
    private final Things things = new Things();
    private final Frame[] frames = new Frame[MOST_FRAMES];
    private int frameCount = 0;
    private char state = NONE_BEGUN;
    private char reason = ' ';
    private long answer = NOTHING;
    private int steps = 0;
    private final Written written = new Written();

    public Sendhouse() {
        Arrays.fill(globals, NOTHING);
        for (int i = 0; i < frames.length; i++) {
            frames[i] = new Frame();
        }
    }

    // ---- classes and methods

    public int add(int above, int fields)
            throws IndexOutOfBoundsException, IllegalArgumentException, IllegalStateException {
        if (!classes.has(above)) {
            throw new IndexOutOfBoundsException("no such class");
        }
        if (isOfPlainValues(above) || !isBelow(fields, OWN_FIELDS + 1)
                || classes.fieldsOf(above) + fields > MOST_FIELDS) {
            throw new IllegalArgumentException("no class can be like that");
        }
        if (classes.count >= MOST_CLASSES) {
            throw new IllegalStateException("as many classes as can be");
        }
        return classes.enlist(above, fields);
    }

    public int classes() {
        return classes.count;
    }

    public int fields(int cls) throws IndexOutOfBoundsException {
        if (!classes.has(cls)) {
            throw new IndexOutOfBoundsException("no such class");
        }
        return classes.fieldsOf(cls);
    }

    public int row(char letter, int a, int b) throws IllegalArgumentException, IllegalStateException {
        if (!isLetter(letter)) {
            throw new IllegalArgumentException("no such letter");
        }
        if (typed.count >= MOST_ROWS) {
            throw new IllegalStateException("as many rows as can be");
        }
        typed.enlist(letter, a, b);
        return typed.count;
    }

    public int wipe() {
        int were = typed.count;
        typed.count = 0;
        return were;
    }

    public int method(int cls, int selector, int arguments, int temporaries)
            throws IndexOutOfBoundsException, IllegalArgumentException, UnsupportedOperationException {
        checkPlaceOfMethod(cls, selector);
        if (!isBelow(arguments, MOST_ARGUMENTS + 1) || !isBelow(temporaries, MOST_TEMPORARIES + 1)) {
            throw new IllegalArgumentException("the number is out of range");
        }
        Told told = new Told(cls, selector, arguments, temporaries, typed);
        if (!told.isWellTold(classes)) {
            throw new UnsupportedOperationException("not well told");
        }
        placeMethod(cls, selector, told);
        // The typed rows are the method's own from here on, so that nothing is copied.
        typed = new Rows();
        return told.rows.count;
    }

    public int remove(int cls, int selector) throws IndexOutOfBoundsException, NoSuchElementException {
        Told told = checkedMethod(cls, selector);
        placeMethod(cls, selector, null);
        return told.calls;
    }

    public int find(int cls, int selector) throws IndexOutOfBoundsException, NoSuchElementException {
        checkPlaceOfMethod(cls, selector);
        Told told = lookUp(cls, selector);
        if (told == null) {
            throw new NoSuchElementException("no method is found");
        }
        return told.cls;
    }

    public int calls(int cls, int selector) throws IndexOutOfBoundsException, NoSuchElementException {
        return checkedMethod(cls, selector).calls;
    }

    private void checkPlaceOfMethod(int cls, int selector) {
        if (!classes.has(cls) || !isBelow(selector, SELECTORS)) {
            throw new IndexOutOfBoundsException("no such class or selector");
        }
    }

    private Told checkedMethod(int cls, int selector) {
        checkPlaceOfMethod(cls, selector);
        Told told = methodAt(cls, selector);
        if (told == null) {
            throw new NoSuchElementException("no method is told there");
        }
        return told;
    }

    private Told methodAt(int cls, int selector) {
        if (!isBelow(cls, MOST_CLASSES) || !isBelow(selector, SELECTORS)) {
            return null;
        }
        return methods[cls * SELECTORS + selector];
    }

    private void placeMethod(int cls, int selector, Told told) {
        if (isBelow(cls, MOST_CLASSES) && isBelow(selector, SELECTORS)) {
            methods[cls * SELECTORS + selector] = told;
        }
    }

    private Told lookUp(int cls, int selector) {
        int at = cls;
        for (int i = 0; i < MOST_CLASSES && at != NO_CLASS; i++) {
            Told told = methodAt(at, selector);
            if (told != null) {
                return told;
            }
            at = classes.aboveOf(at);
        }
        return null;
    }

    // ---- compiling

    // A mark alone, which a run does not ask for: what is compiled leads to the same, and the speed is free.
    public int compile(int cls, int selector) throws IndexOutOfBoundsException, NoSuchElementException {
        checkedMethod(cls, selector).compiled = true;
        return compiledMethods();
    }

    public boolean isCompiled(int cls, int selector) throws IndexOutOfBoundsException, NoSuchElementException {
        return checkedMethod(cls, selector).compiled;
    }

    public int hot(int calls) throws IllegalArgumentException {
        if (!isBelow(calls, MOST_HOT + 1)) {
            throw new IllegalArgumentException("the number is out of range");
        }
        int before = hot;
        hot = calls;
        return before;
    }

    private void countCall(Told told) {
        told.calls++;
        if (hot != 0 && told.calls >= hot) {
            told.compiled = true;
        }
    }

    private int compiledMethods() {
        int many = 0;
        for (Told told : methods) {
            if (told != null && told.compiled) {
                many++;
            }
        }
        return many;
    }

    private int toldMethods() {
        int many = 0;
        for (Told told : methods) {
            if (told != null) {
                many++;
            }
        }
        return many;
    }

    // ---- globals and things

    public int number(int global, int number) throws IndexOutOfBoundsException {
        checkGlobal(global);
        putAt(globals, global, ofNumber(number));
        return things.count;
    }

    public int nothing(int global) throws IndexOutOfBoundsException {
        checkGlobal(global);
        putAt(globals, global, NOTHING);
        return things.count;
    }

    public int make(int global, int cls)
            throws IndexOutOfBoundsException, IllegalArgumentException, IllegalStateException {
        if (!isBelow(global, GLOBALS) || !classes.has(cls)) {
            throw new IndexOutOfBoundsException("no such global or class");
        }
        if (isOfPlainValues(cls)) {
            throw new IllegalArgumentException("no things are of that class");
        }
        if (things.isFull()) {
            throw new IllegalStateException("as many things as can be");
        }
        int number = things.enlist(cls, classes.fieldsOf(cls));
        putAt(globals, global, ofThing(number));
        return number;
    }

    public char kind(int global) throws IndexOutOfBoundsException {
        checkGlobal(global);
        return kindOf(placeAt(globals, global));
    }

    public int value(int global) throws IndexOutOfBoundsException {
        checkGlobal(global);
        return numberOf(placeAt(globals, global));
    }

    public int classOf(int thing) throws IndexOutOfBoundsException {
        Thing it = things.withNumber(thing);
        if (it == null) {
            throw new IndexOutOfBoundsException("no such thing any more");
        }
        return it.cls;
    }

    public char fieldKind(int thing, int field) throws IndexOutOfBoundsException {
        return kindOf(checkedField(thing, field));
    }

    public int fieldValue(int thing, int field) throws IndexOutOfBoundsException {
        return numberOf(checkedField(thing, field));
    }

    public int things() {
        return things.count;
    }

    public int collect() {
        for (long value : globals) {
            things.reach(value);
        }
        for (int i = 0; i < frameCount; i++) {
            reachFrom(frameAt(i));
        }
        if (state == ANSWERED) {
            things.reach(answer);
        }
        things.reachFields();
        return things.sweep();
    }

    private void checkGlobal(int global) {
        if (!isBelow(global, GLOBALS)) {
            throw new IndexOutOfBoundsException("no such global");
        }
    }

    private long checkedField(int thing, int field) {
        Thing it = things.withNumber(thing);
        if (it == null || !it.hasField(field)) {
            throw new IndexOutOfBoundsException("no such thing any more, or field of it");
        }
        return placeAt(it.places, field);
    }

    private void reachFrom(Frame frame) {
        if (frame == null) {
            return;
        }
        for (int i = 0; i < frame.places(); i++) {
            things.reach(frame.place(i));
        }
    }

    // ---- runs

    public int begin(int global, int selector, int arguments, int x, int y)
            throws IndexOutOfBoundsException, IllegalArgumentException, IllegalStateException, UnsupportedOperationException {
        if (!isBelow(global, GLOBALS) || !isBelow(selector, SELECTORS)) {
            throw new IndexOutOfBoundsException("no such global or selector");
        }
        if (!isBelow(arguments, MOST_ARGUMENTS + 1)) {
            throw new IllegalArgumentException("the number is out of range");
        }
        if (state == STANDS) {
            throw new IllegalStateException("a run stands");
        }
        long receiver = placeAt(globals, global);
        Told told = lookUp(things.classOfValue(receiver), selector);
        if (told == null || told.arguments != arguments) {
            throw new UnsupportedOperationException("no such method");
        }
        state = STANDS;
        frameCount = 0;
        Frame first = openFrame(told, receiver);
        if (first != null) {
            putAt(first.arguments, 0, ofNumber(x));
            putAt(first.arguments, 1, ofNumber(y));
        }
        return told.cls;
    }

    public int go(int steps) throws IllegalArgumentException, IllegalStateException {
        if (steps < 1 || steps > MOST_STEPS) {
            throw new IllegalArgumentException("the number is out of range");
        }
        if (state != STANDS) {
            throw new IllegalStateException("no run stands");
        }
        int done = 0;
        for (int i = 0; i < MORE_ROWS_THAN_A_GO_HAS && state == STANDS; i++) {
            Frame frame = frameAt(frameCount - 1);
            if (frame == null) {
                break;
            }
            if (isStep(frame)) {
                if (done == steps) {
                    break;
                }
                done++;
            }
            doRow(frame);
        }
        this.steps += done;
        return done;
    }

    public int end() throws IllegalStateException {
        if (frameCount == 0) {
            throw new IllegalStateException("there are no frames");
        }
        int were = frameCount;
        frameCount = 0;
        state = NONE_BEGUN;
        return were;
    }

    public char state() {
        return state;
    }

    public char reason() throws NoSuchElementException {
        if (state != FAULTY) {
            throw new NoSuchElementException("there is no fault");
        }
        return reason;
    }

    public char answerKind() throws NoSuchElementException {
        return kindOf(checkedAnswer());
    }

    public int answer() throws NoSuchElementException {
        return numberOf(checkedAnswer());
    }

    public int steps() {
        return steps;
    }

    public int frames() {
        return frameCount;
    }

    public int frame(int frame, char what) throws IndexOutOfBoundsException, IllegalArgumentException {
        Frame it = checkedFrame(frame);
        switch (what) {
            case 'c':
                return it.cls();
            case 's':
                return it.selector();
            case 'r':
                return it.row;
            case 'd':
                return it.depth;
            default:
                throw new IllegalArgumentException("a frame has no such thing");
        }
    }

    public char slotKind(int frame, char what, int index)
            throws IndexOutOfBoundsException, IllegalArgumentException, NoSuchElementException {
        return kindOf(checkedSlot(frame, what, index));
    }

    public int slot(int frame, char what, int index)
            throws IndexOutOfBoundsException, IllegalArgumentException, NoSuchElementException {
        return numberOf(checkedSlot(frame, what, index));
    }

    public int written() {
        return written.count;
    }

    public char writtenKind(int index) throws NoSuchElementException {
        return kindOf(checkedWritten(index));
    }

    public int writtenValue(int index) throws NoSuchElementException {
        return numberOf(checkedWritten(index));
    }

    private long checkedAnswer() {
        if (state != ANSWERED) {
            throw new NoSuchElementException("the run has no answer");
        }
        return answer;
    }

    private Frame checkedFrame(int frame) {
        Frame it = isBelow(frame, frameCount) ? frameAt(frame) : null;
        if (it == null) {
            throw new IndexOutOfBoundsException("no such frame");
        }
        return it;
    }

    private long checkedSlot(int frame, char what, int index) {
        Frame it = checkedFrame(frame);
        if (what != 's' && what != 'a' && what != 't' && what != 'p') {
            throw new IllegalArgumentException("no such letter");
        }
        if (what == 's') {
            return it.receiver;
        }
        if (!isBelow(index, it.placesOf(what))) {
            throw new NoSuchElementException("no such place");
        }
        return it.placeOf(what, index);
    }

    private long checkedWritten(int index) {
        if (!isBelow(index, written.count)) {
            throw new NoSuchElementException("no such place");
        }
        return written.valueAt(index);
    }

    private Frame frameAt(int index) {
        return isBelow(index, frames.length) ? frames[index] : null;
    }

    private Frame openFrame(Told told, long receiver) {
        Frame frame = frameAt(frameCount);
        if (frame != null) {
            frame.open(told, receiver);
            frameCount++;
            countCall(told);
        }
        return frame;
    }

    private boolean isStep(Frame frame) {
        switch (frame.letter()) {
            case 'm':
            case 'M':
                return true;
            case 'j':
                return frame.first() <= frame.row;
            case 'y':
                return frame.first() <= frame.row && isGoingThere(frame.fromTop(0));
            default:
                return false;
        }
    }

    private static boolean isGoingThere(long value) {
        return isNumber(value) && numberOf(value) != 0;
    }

    private void doRow(Frame frame) {
        char letter = frame.letter();
        int a = frame.first();
        switch (letter) {
            case 'f':
                putField(frame, a);
                break;
            case 'F':
                takeIntoField(frame, a);
                break;
            case '+':
            case '-':
            case '*':
            case '/':
            case '<':
                reckon(frame, letter);
                break;
            case 'c':
                makeThing(frame, a);
                break;
            case 'm':
            case 'M':
                send(frame, letter, a, frame.second());
                break;
            case 'j':
                frame.row = a;
                break;
            case 'y':
                goThereIfNotZero(frame, a);
                break;
            case 'r':
                giveBack(frame.pop());
                break;
            default:
                doRowWithoutFault(frame, letter, a);
                frame.row++;
                break;
        }
    }

    private void doRowWithoutFault(Frame frame, char letter, int a) {
        switch (letter) {
            case 'T':
                putAt(frame.temporaries, a, frame.pop());
                break;
            case 'G':
                putAt(globals, a, frame.pop());
                break;
            case 'p':
                frame.pop();
                break;
            case 'w':
                written.enlist(frame.pop());
                break;
            case '=':
                frame.push(ofNumber(frame.pop() == frame.pop() ? 1 : 0));
                break;
            case 'k':
                frame.push(ofNumber(things.classOfValue(frame.pop())));
                break;
            default:
                frame.push(valueToPut(frame, letter, a));
                break;
        }
    }

    private long valueToPut(Frame frame, char letter, int a) {
        switch (letter) {
            case 'n':
                return ofNumber(a);
            case 's':
                return frame.receiver;
            case 'a':
                return placeAt(frame.arguments, a);
            case 't':
                return placeAt(frame.temporaries, a);
            case 'g':
                return placeAt(globals, a);
            case 'd':
                return frame.fromTop(0);
            default:
                return NOTHING;
        }
    }

    private void putField(Frame frame, int field) {
        Thing thing = things.ofValue(frame.receiver);
        if (thing == null || !thing.hasField(field)) {
            fault('k');
            return;
        }
        frame.push(placeAt(thing.places, field));
        frame.row++;
    }

    private void takeIntoField(Frame frame, int field) {
        Thing thing = things.ofValue(frame.receiver);
        if (thing == null || !thing.hasField(field)) {
            fault('k');
            return;
        }
        putAt(thing.places, field, frame.pop());
        frame.row++;
    }

    private void reckon(Frame frame, char letter) {
        long first = frame.fromTop(1);
        long second = frame.fromTop(0);
        if (!isNumber(first) || !isNumber(second)) {
            fault('k');
            return;
        }
        if (letter == '/' && numberOf(second) == 0) {
            fault('z');
            return;
        }
        frame.pop();
        frame.pop();
        frame.push(ofNumber(outcome(letter, numberOf(first), numberOf(second))));
        frame.row++;
    }

    private static int outcome(char letter, int first, int second) {
        switch (letter) {
            case '+':
                return first + second;
            case '-':
                return first - second;
            case '*':
                return first * second;
            case '/':
                return second == 0 ? 0 : first / second;
            default:
                return first < second ? 1 : 0;
        }
    }

    private void makeThing(Frame frame, int cls) {
        if (things.isFull()) {
            fault('m');
            return;
        }
        frame.push(ofThing(things.enlist(cls, classes.fieldsOf(cls))));
        frame.row++;
    }

    private void send(Frame frame, char letter, int selector, int arguments) {
        long receiver = frame.fromTop(arguments);
        int from = letter == 'M' ? classes.aboveOf(frame.cls()) : things.classOfValue(receiver);
        Told told = lookUp(from, selector);
        if (told == null || told.arguments != arguments) {
            fault('u');
            return;
        }
        if (frameCount >= MOST_FRAMES) {
            fault('d');
            return;
        }
        Frame begun = openFrame(told, receiver);
        if (begun == null) {
            return;
        }
        for (int i = arguments - 1; i >= 0; i--) {
            putAt(begun.arguments, i, frame.pop());
        }
        frame.pop();
    }

    private void goThereIfNotZero(Frame frame, int row) {
        long value = frame.fromTop(0);
        if (!isNumber(value)) {
            fault('k');
            return;
        }
        frame.pop();
        frame.row = numberOf(value) != 0 ? row : frame.row + 1;
    }

    private void giveBack(long value) {
        frameCount--;
        Frame waiting = frameAt(frameCount - 1);
        if (waiting == null) {
            state = ANSWERED;
            answer = value;
            return;
        }
        waiting.push(value);
        waiting.row++;
    }

    private void fault(char why) {
        state = FAULTY;
        reason = why;
    }

    // ---- figures

    public float compiledShare() throws ArithmeticException {
        int told = toldMethods();
        if (told == 0) {
            throw new ArithmeticException("no methods are told");
        }
        return (float) compiledMethods() / (float) told;
    }

    public double meanCalls() throws ArithmeticException {
        int told = toldMethods();
        if (told == 0) {
            throw new ArithmeticException("no methods are told");
        }
        long sum = 0;
        for (Told each : methods) {
            if (each != null) {
                sum += each.calls;
            }
        }
        return (double) sum / (double) told;
    }

    public long checksum() {
        long sum = plus(7, steps);
        for (long value : globals) {
            sum = plusValue(sum, value);
        }
        for (int i = 0; i < things.count; i++) {
            sum = plusThing(sum, things.inOrder(i));
        }
        sum = plus(sum, state);
        for (int i = 0; i < frameCount; i++) {
            sum = plusFrame(sum, frameAt(i));
        }
        return sum * written.power + written.sum;
    }

    public boolean isSound() {
        if (things.count > MOST_THINGS || frameCount > MOST_FRAMES) {
            return false;
        }
        if (state == ANSWERED && !things.has(answer)) {
            return false;
        }
        return hasGlobalsThere() && things.hasFieldsThere() && hasFramesThere() && hasDepthAsTold();
    }

    private static long plus(long sum, long next) {
        return 31 * sum + next;
    }

    private static long plusValue(long sum, long value) {
        return plus(plus(sum, kindOf(value)), numberOf(value));
    }

    private static long plusThing(long before, Thing thing) {
        if (thing == null) {
            return before;
        }
        long sum = plus(plus(before, thing.number), thing.cls);
        for (int i = 0; i < thing.size; i++) {
            sum = plusValue(sum, placeAt(thing.places, i));
        }
        return sum;
    }

    private static long plusFrame(long before, Frame frame) {
        if (frame == null) {
            return before;
        }
        long sum = plus(plus(plus(before, frame.cls()), frame.selector()), frame.row);
        for (int i = 0; i < frame.places(); i++) {
            sum = plusValue(sum, frame.place(i));
        }
        return sum;
    }

    private boolean hasGlobalsThere() {
        for (long value : globals) {
            if (!things.has(value)) {
                return false;
            }
        }
        return true;
    }

    private boolean hasFramesThere() {
        for (int i = 0; i < frameCount; i++) {
            Frame frame = frameAt(i);
            if (frame == null || !hasPlacesThere(frame)) {
                return false;
            }
        }
        return true;
    }

    private boolean hasPlacesThere(Frame frame) {
        for (int i = 0; i < frame.places(); i++) {
            if (!things.has(frame.place(i))) {
                return false;
            }
        }
        return true;
    }

    private boolean hasDepthAsTold() {
        if (frameCount == 0) {
            return true;
        }
        Frame last = frameAt(frameCount - 1);
        return last != null && last.depth == last.depthAsTold();
    }

    // ---- values, places and letters

    private static long ofNumber(int number) {
        return (long) 'n' << 32 | number & LOWER_HALF;
    }

    private static long ofThing(int number) {
        return (long) 'o' << 32 | number & LOWER_HALF;
    }

    private static char kindOf(long value) {
        return (char) (value >>> 32);
    }

    private static int numberOf(long value) {
        return (int) value;
    }

    private static boolean isNumber(long value) {
        return kindOf(value) == 'n';
    }

    private static boolean isThing(long value) {
        return kindOf(value) == 'o';
    }

    private static long placeAt(long[] places, int index) {
        return isBelow(index, places.length) ? places[index] : NOTHING;
    }

    private static void putAt(long[] places, int index, long value) {
        if (isBelow(index, places.length)) {
            places[index] = value;
        }
    }

    private static boolean isBelow(int index, int bound) {
        return index >= 0 && index < bound;
    }

    private static boolean isOfPlainValues(int cls) {
        return cls == CLASS_OF_NUMBERS || cls == CLASS_OF_NOTHING;
    }

    private static boolean isLetter(char letter) {
        switch (letter) {
            case 'n': case 'u': case 's': case 'a': case 't': case 'f': case 'g':
            case 'T': case 'F': case 'G': case 'd': case 'p':
            case '+': case '-': case '*': case '/': case '<': case '=':
            case 'k': case 'c': case 'm': case 'M':
            case 'j': case 'y': case 'r': case 'w':
                return true;
            default:
                return false;
        }
    }

    /** The classes, each with the one above it and the number of all its fields. */
    private static final class Classes {
        private final int[] above = new int[MOST_CLASSES];
        private final int[] fieldCounts = new int[MOST_CLASSES];
        private int count = 3;

        Classes() {
            above[0] = NO_CLASS;
        }

        boolean has(int cls) {
            return isBelow(cls, count);
        }

        int aboveOf(int cls) {
            return isBelow(cls, above.length) ? above[cls] : NO_CLASS;
        }

        int fieldsOf(int cls) {
            return isBelow(cls, fieldCounts.length) ? fieldCounts[cls] : 0;
        }

        int enlist(int itsAbove, int ownFields) {
            if (!isBelow(count, MOST_CLASSES)) {
                return NO_CLASS;
            }
            above[count] = itsAbove;
            fieldCounts[count] = fieldsOf(itsAbove) + ownFields;
            count++;
            return count - 1;
        }
    }

    /** Rows as they are typed, or of a method; and where one can come to among them, with how deep a pile. */
    private static final class Rows {
        private final char[] letters = new char[MOST_ROWS];
        private final int[] firsts = new int[MOST_ROWS];
        private final int[] seconds = new int[MOST_ROWS];
        private final int[] depths = new int[MOST_ROWS];
        private final int[] comeTo = new int[MOST_ROWS];
        private int count = 0;
        private int comeToCount = 0;

        void enlist(char letter, int a, int b) {
            if (isBelow(count, MOST_ROWS)) {
                letters[count] = letter;
                firsts[count] = a;
                seconds[count] = b;
                count++;
            }
        }

        char letterAt(int row) {
            return isBelow(row, letters.length) ? letters[row] : 'r';
        }

        int firstAt(int row) {
            return isBelow(row, firsts.length) ? firsts[row] : 0;
        }

        int secondAt(int row) {
            return isBelow(row, seconds.length) ? seconds[row] : 0;
        }

        int depthAt(int row) {
            return isBelow(row, depths.length) ? depths[row] : NOT_COME_TO;
        }

        int comeToAt(int index) {
            return isBelow(index, comeTo.length) ? comeTo[index] : 0;
        }

        boolean comeToFirst() {
            Arrays.fill(depths, NOT_COME_TO);
            comeToCount = 0;
            return comeTo(0, 0);
        }

        boolean comeTo(int row, int depth) {
            if (!isBelow(row, count) || !isBelow(row, MOST_ROWS) || depth > MOST_ON_PILE) {
                return false;
            }
            if (depths[row] != NOT_COME_TO) {
                return depths[row] == depth;
            }
            depths[row] = depth;
            if (isBelow(comeToCount, MOST_ROWS)) {
                comeTo[comeToCount] = row;
                comeToCount++;
            }
            return true;
        }

        boolean leadOnFrom(int row) {
            char letter = letterAt(row);
            int taken = takenBy(letter, secondAt(row));
            if (taken > depthAt(row)) {
                return false;
            }
            int depth = depthAt(row) - taken + putBy(letter);
            switch (letter) {
                case 'r':
                    return true;
                case 'j':
                    return comeTo(firstAt(row), depth);
                case 'y':
                    return comeTo(firstAt(row), depth) && comeTo(row + 1, depth);
                default:
                    return comeTo(row + 1, depth);
            }
        }

        private static int takenBy(char letter, int arguments) {
            switch (letter) {
                case 'n': case 'u': case 's': case 'a': case 't': case 'f': case 'g': case 'c': case 'j':
                    return 0;
                case '+': case '-': case '*': case '/': case '<': case '=':
                    return 2;
                case 'm': case 'M':
                    return arguments + 1;
                default:
                    return 1;
            }
        }

        private static int putBy(char letter) {
            switch (letter) {
                case 'T': case 'F': case 'G': case 'p': case 'j': case 'y': case 'r': case 'w':
                    return 0;
                case 'd':
                    return 2;
                default:
                    return 1;
            }
        }
    }

    /** A method as it was told; frames keep theirs when it is told anew or taken away. */
    private static final class Told {
        private final int cls;
        private final int selector;
        private final int arguments;
        private final int temporaries;
        private final Rows rows;
        private int calls = 0;
        private boolean compiled = false;

        Told(int cls, int selector, int arguments, int temporaries, Rows rows) {
            this.cls = cls;
            this.selector = selector;
            this.arguments = arguments;
            this.temporaries = temporaries;
            this.rows = rows;
        }

        boolean isWellTold(Classes classes) {
            if (!rows.comeToFirst()) {
                return false;
            }
            for (int i = 0; i < MOST_ROWS && i < rows.comeToCount; i++) {
                int row = rows.comeToAt(i);
                if (!isNamingWhatIsThere(row, classes) || !rows.leadOnFrom(row)) {
                    return false;
                }
            }
            return true;
        }

        private boolean isNamingWhatIsThere(int row, Classes classes) {
            int a = rows.firstAt(row);
            switch (rows.letterAt(row)) {
                case 'a':
                    return isBelow(a, arguments);
                case 't': case 'T':
                    return isBelow(a, temporaries);
                case 'f': case 'F':
                    return isBelow(a, classes.fieldsOf(cls));
                case 'g': case 'G':
                    return isBelow(a, GLOBALS);
                case 'c':
                    return classes.has(a) && !isOfPlainValues(a);
                case 'm': case 'M':
                    return isBelow(a, SELECTORS) && isBelow(rows.secondAt(row), MOST_ARGUMENTS + 1);
                default:
                    return true;
            }
        }
    }

    /** A thing, or room for one that is not there yet. */
    private static final class Thing {
        private final long[] places = new long[MOST_FIELDS];
        private int number = 0;
        private int cls = 0;
        private int size = 0;
        private boolean reached = false;

        void open(int itsNumber, int itsClass, int itsSize) {
            number = itsNumber;
            cls = itsClass;
            size = itsSize;
            reached = false;
            Arrays.fill(places, NOTHING);
        }

        boolean hasField(int field) {
            return isBelow(field, size);
        }
    }

    /** The things that are there, those made first in front, ahead of the room for others. */
    private static final class Things {
        private final Thing[] all = new Thing[MOST_THINGS];
        private final Thing[] reached = new Thing[MOST_THINGS];
        private int count = 0;
        private int reachedCount = 0;
        private int made = 0;

        Things() {
            for (int i = 0; i < all.length; i++) {
                all[i] = new Thing();
            }
        }

        boolean isFull() {
            return count >= MOST_THINGS;
        }

        int enlist(int cls, int size) {
            int number = made;
            Thing thing = isBelow(count, all.length) ? all[count] : null;
            if (thing != null) {
                thing.open(number, cls, size);
                count++;
                made++;
            }
            return number;
        }

        Thing inOrder(int index) {
            return isBelow(index, count) && isBelow(index, all.length) ? all[index] : null;
        }

        /** The thing of a number, or null: halves what is left, as the numbers go up. */
        Thing withNumber(int number) {
            int from = 0;
            int to = count - 1;
            for (int i = 0; i < MOST_THINGS && from <= to; i++) {
                int middle = (from + to) / 2;
                Thing thing = isBelow(middle, all.length) ? all[middle] : null;
                if (thing == null || thing.number == number) {
                    return thing;
                }
                if (thing.number < number) {
                    from = middle + 1;
                } else {
                    to = middle - 1;
                }
            }
            return null;
        }

        Thing ofValue(long value) {
            return isThing(value) ? withNumber(numberOf(value)) : null;
        }

        int classOfValue(long value) {
            if (isNumber(value)) {
                return CLASS_OF_NUMBERS;
            }
            Thing thing = ofValue(value);
            return thing == null ? CLASS_OF_NOTHING : thing.cls;
        }

        boolean has(long value) {
            return !isThing(value) || ofValue(value) != null;
        }

        boolean hasFieldsThere() {
            for (int i = 0; i < count; i++) {
                Thing thing = inOrder(i);
                if (thing == null || !hasPlacesThere(thing)) {
                    return false;
                }
            }
            return true;
        }

        private boolean hasPlacesThere(Thing thing) {
            for (int i = 0; i < thing.size; i++) {
                if (!has(placeAt(thing.places, i))) {
                    return false;
                }
            }
            return true;
        }

        void reach(long value) {
            Thing thing = ofValue(value);
            if (thing != null && !thing.reached && isBelow(reachedCount, reached.length)) {
                thing.reached = true;
                reached[reachedCount] = thing;
                reachedCount++;
            }
        }

        /** Each thing stands among the reached ones once, so this ends with a ring of things too. */
        void reachFields() {
            for (int i = 0; i < reached.length && i < reachedCount; i++) {
                Thing thing = reached[i];
                for (int j = 0; thing != null && j < thing.size; j++) {
                    reach(placeAt(thing.places, j));
                }
            }
        }

        int sweep() {
            int before = count;
            int kept = 0;
            for (int i = 0; i < before && i < all.length; i++) {
                Thing thing = all[i];
                if (thing != null && thing.reached && kept <= i) {
                    thing.reached = false;
                    all[i] = all[kept];
                    all[kept] = thing;
                    kept++;
                }
            }
            count = kept;
            reachedCount = 0;
            return before - kept;
        }
    }

    /** A frame, or room for one. */
    private static final class Frame {
        private final long[] arguments = new long[MOST_ARGUMENTS];
        private final long[] temporaries = new long[MOST_TEMPORARIES];
        private final long[] pile = new long[MOST_ON_PILE];
        private Told told = null;
        private long receiver = NOTHING;
        private int row = 0;
        private int depth = 0;

        void open(Told itsMethod, long itsReceiver) {
            told = itsMethod;
            receiver = itsReceiver;
            row = 0;
            depth = 0;
            Arrays.fill(temporaries, NOTHING);
        }

        int cls() {
            return told == null ? 0 : told.cls;
        }

        int selector() {
            return told == null ? 0 : told.selector;
        }

        char letter() {
            return told == null ? 'r' : told.rows.letterAt(row);
        }

        int first() {
            return told == null ? 0 : told.rows.firstAt(row);
        }

        int second() {
            return told == null ? 0 : told.rows.secondAt(row);
        }

        int depthAsTold() {
            return told == null ? 0 : told.rows.depthAt(row);
        }

        void push(long value) {
            if (isBelow(depth, pile.length)) {
                pile[depth] = value;
                depth++;
            }
        }

        long pop() {
            if (depth < 1) {
                return NOTHING;
            }
            depth--;
            return placeAt(pile, depth);
        }

        long fromTop(int below) {
            return placeAt(pile, depth - 1 - below);
        }

        int placesOf(char what) {
            switch (what) {
                case 'a':
                    return told == null ? 0 : told.arguments;
                case 't':
                    return told == null ? 0 : told.temporaries;
                default:
                    return depth;
            }
        }

        long placeOf(char what, int index) {
            switch (what) {
                case 'a':
                    return placeAt(arguments, index);
                case 't':
                    return placeAt(temporaries, index);
                default:
                    return placeAt(pile, index);
            }
        }

        int places() {
            return 1 + placesOf('a') + placesOf('t') + depth;
        }

        /** All places in one row: the receiver, the arguments, the temporaries, the pile. */
        long place(int index) {
            int argument = index - 1;
            int temporary = argument - placesOf('a');
            if (index == 0) {
                return receiver;
            }
            if (temporary < 0) {
                return placeOf('a', argument);
            }
            if (temporary < placesOf('t')) {
                return placeOf('t', temporary);
            }
            return placeOf('p', temporary - placesOf('t'));
        }
    }

    /** What was written, in pages, so that growing copies nothing; and its share of the sum over all. */
    private static final class Written {
        private final ArrayList<Page> pages = new ArrayList<>();
        private int count = 0;
        private long sum = 0;
        private long power = 1;

        void enlist(long value) {
            int page = count / PAGE_SIZE;
            if (page >= MOST_PAGES) {
                return;
            }
            if (page >= pages.size()) {
                pages.add(new Page());
            }
            Page last = pageAt(page);
            if (last != null) {
                putAt(last.values, count % PAGE_SIZE, value);
                count++;
                sum = plusValue(sum, value);
                power = power * 31 * 31;
            }
        }

        long valueAt(int index) {
            Page page = pageAt(index / PAGE_SIZE);
            return page == null ? NOTHING : placeAt(page.values, index % PAGE_SIZE);
        }

        private Page pageAt(int index) {
            return isBelow(index, pages.size()) ? pages.get(index) : null;
        }
    }

    /** Room for some values that were written. */
    private static final class Page {
        private final long[] values = new long[PAGE_SIZE];
    }
}
