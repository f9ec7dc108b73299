import java.util.ArrayList;
import java.util.List;
import java.util.NoSuchElementException;
import java.util.function.Supplier;
import java.util.function.ToLongFunction;

/**
 * A test for each 'Throws' row of the document: one beyond the least and the greatest, far beyond, the exception that
 * is documented first where several apply; and each time that the house goes on as one that was not called so.
 */
public final class RefusedTest {
    private static final Class<? extends Exception> OUT = IndexOutOfBoundsException.class;
    private static final Class<? extends Exception> ARGUMENT = IllegalArgumentException.class;
    private static final Class<? extends Exception> STATE = IllegalStateException.class;
    private static final Class<? extends Exception> UNSUPPORTED = UnsupportedOperationException.class;
    private static final Class<? extends Exception> NONE = NoSuchElementException.class;
    private static final Class<? extends Exception> ARITHMETIC = ArithmeticException.class;
    private static final int MAX = Integer.MAX_VALUE;
    private static final int MIN = Integer.MIN_VALUE;
    private static final Due CHECK = new Due();

    private static final Supplier<Sendhouse> FRESH = Sendhouse::new;
    private static final Supplier<Sendhouse> FULL = RefusedTest::full;
    private static final Supplier<Sendhouse> STANDING = RefusedTest::standing;
    private static final Supplier<Sendhouse> FAULTY = RefusedTest::faulty;
    private static final Supplier<Sendhouse> ANSWERED = RefusedTest::answered;
    private static final Supplier<Sendhouse> ENDED = RefusedTest::ended;
    private static final List<Supplier<Sendhouse>> ALL = List.of(FRESH, FULL, STANDING, FAULTY, ANSWERED, ENDED);
    private static final List<Supplier<Sendhouse>> NOT_STANDING = List.of(FRESH, FAULTY, ANSWERED, ENDED);
    private static final List<Supplier<Sendhouse>> WITH_FRAMES = List.of(FULL, STANDING, FAULTY);
    private static final List<Supplier<Sendhouse>> WITHOUT_FRAMES = List.of(FRESH, ANSWERED, ENDED);

    public static void main(String[] args) {
        makersAreAsTheySay();
        promise02Add();
        promise04Fields();
        promise05Row();
        promise07Method();
        promise09Find();
        promises08And10To12PlacesOfMethods();
        promise13Hot();
        promises14To18Globals();
        promise16Make();
        promise19ClassOf();
        promises20And21Fields();
        promise24BeginOut();
        promise24BeginArgument();
        promise24BeginStands();
        promise24BeginUnsupported();
        promise25Go();
        promise26End();
        promises28To30ReasonAndAnswer();
        promise33Frame();
        promises34And35Slots();
        promises37And38Written();
        promises39And40Figures();
        CHECK.finish("RefusedTest");
    }

    // ---- houses

    /** The class 3 with 8 fields by way of 4 with 4; a thing of each; methods of 0 to 2 arguments, and a rows typed. */
    private static Sendhouse house() {
        Sendhouse house = new Sendhouse();
        house.add(0, 4);
        house.add(3, 4);
        house.make(0, 3);
        house.make(1, 4);
        house.make(2, 0);
        house.number(3, 7);
        Due.tell(house, 0, 0, 0, 0, "n1 w c0 w u w n5 r");
        Due.tell(house, 0, 1, 1, 2, "n1 s a0 s s m2,2 r");
        Due.tell(house, 0, 2, 2, 3, "u j1");
        Due.tell(house, 0, 3, 2, 4, "u s a0 a1 / r");
        Due.tell(house, 3, 15, 0, 0, "s m15,0 r");
        house.hot(5);
        house.compile(0, 1);
        Due.type(house, "u r");
        return house;
    }

    private static Sendhouse standing() {
        Sendhouse house = house();
        house.begin(0, 1, 1, 4, 0);
        house.go(3);
        return house;
    }

    private static Sendhouse faulty() {
        Sendhouse house = house();
        house.begin(1, 3, 2, 4, 0);
        house.go(3);
        return house;
    }

    private static Sendhouse answered() {
        Sendhouse house = house();
        house.begin(2, 0, 0, 0, 0);
        house.go(3);
        return house;
    }

    private static Sendhouse ended() {
        Sendhouse house = standing();
        house.end();
        return house;
    }

    /** As many classes, typed rows, things and frames as can be; it stands. */
    private static Sendhouse full() {
        Sendhouse house = house();
        while (house.classes() < 12) {
            house.add(house.classes() - 1, 0);
        }
        house.begin(0, 15, 0, 0, 0);
        house.go(11);
        house.make(5, 11);
        while (house.things() < 60) {
            house.make(6, 4);
        }
        house.wipe();
        for (int i = 0; i < 24; i++) {
            house.row('w', i, -i);
        }
        return house;
    }

    private static void makersAreAsTheySay() {
        String states = "";
        String frames = "";
        for (Supplier<Sendhouse> maker : ALL) {
            states += maker.get().state();
            frames += maker.get().frames() + " ";
        }
        CHECK.due("states", states, "-ssxr-");
        CHECK.due("frames", frames, "0 12 2 1 0 0 ");
        CHECK.due("12 classes", full().classes(), 12);
        CHECK.due("60 things", full().things(), 60);
        CHECK.due("24 rows", full().wipe(), 24);
    }

    private static void refused(String what, List<Supplier<Sendhouse>> makers, Class<? extends Exception> kind,
            ToLongFunction<Sendhouse> call) {
        for (Supplier<Sendhouse> maker : makers) {
            CHECK.dueRefused(what + " " + ALL.indexOf(maker), maker, kind, call);
        }
    }

    private static void refused(String what, Supplier<Sendhouse> maker, Class<? extends Exception> kind,
            ToLongFunction<Sendhouse> call) {
        refused(what, List.of(maker), kind, call);
    }

    private static void allowed(String what, Supplier<Sendhouse> maker, long want, ToLongFunction<Sendhouse> call) {
        CHECK.dueAnswer(what + " is allowed", maker, want, call);
    }

    private static int[] beyond(int least, int greatest) {
        return new int[] {least - 1, greatest + 1, -greatest - 2, MIN, MAX, greatest + (1 << 16), least - (1 << 16)};
    }

    // ---- classes and methods

    private static void promise02Add() {
        for (int above : beyond(0, 11)) {
            refused("no class " + above, ALL, OUT, it -> it.add(above, 0));
            refused("no class " + above + ", ahead of the number", ALL, OUT, it -> it.add(above, 5));
            refused("no class " + above + ", ahead of the number", ALL, OUT, it -> it.add(above, -1));
        }
        refused("not there yet", FRESH, OUT, it -> it.add(3, 0));
        refused("not there yet, ahead of the number", FRESH, OUT, it -> it.add(3, MAX));
        refused("not there yet", STANDING, OUT, it -> it.add(5, 4));
        for (int above = 1; above <= 2; above++) {
            int cls = above;
            refused("below " + above, ALL, ARGUMENT, it -> it.add(cls, 0));
            refused("below " + above + " and wrong", ALL, ARGUMENT, it -> it.add(cls, 5));
        }
        for (int fields : beyond(0, 4)) {
            refused(fields + " fields, also ahead of the 13th", ALL, ARGUMENT, it -> it.add(0, fields));
        }
        refused("9 in all, also ahead of the 13th", List.of(FULL, STANDING), ARGUMENT, it -> it.add(4, 1));
        refused("12 in all", STANDING, ARGUMENT, it -> it.add(4, 4));
        for (int above : new int[] {0, 3, 4, 11}) {
            refused("a 13th", FULL, STATE, it -> it.add(above, 0));
        }
        refused("a 13th with 4", FULL, STATE, it -> it.add(3, 4));
        allowed("0 fields", STANDING, 5, it -> it.add(4, 0));
        allowed("4 fields", STANDING, 5, it -> it.add(3, 4));
    }

    private static void promise04Fields() {
        for (int cls : beyond(0, 11)) {
            refused("fields of " + cls, ALL, OUT, it -> it.fields(cls));
        }
        refused("not there yet", FRESH, OUT, it -> it.fields(3));
        refused("not there yet", STANDING, OUT, it -> it.fields(5));
        allowed("fields of the last", FULL, 8, it -> it.fields(11));
        allowed("fields of the first", FULL, 0, it -> it.fields(0));
    }

    private static void promise05Row() {
        for (char letter : "NUSADPKCRWJYxvbehilozq0129 ./_~\u0000\u007f\u00ff\u016e\uffff".toCharArray()) {
            if ("nusatfgTFGdp+-*/<=kcmMjyrw".indexOf(letter) < 0) {
                refused("letter " + (int) letter + ", also ahead of the 25th", ALL, ARGUMENT, it -> it.row(letter, 0, 0));
            }
        }
        for (char letter : "nusatfgTFGdp+-*/<=kcmMjyrw".toCharArray()) {
            refused("a 25th " + letter, FULL, STATE, it -> it.row(letter, MIN, MAX));
            allowed("a third " + letter, STANDING, 3, it -> it.row(letter, MIN, MAX));
        }
    }

    private static void promise07Method() {
        for (int cls : beyond(0, 11)) {
            refused("method of " + cls, ALL, OUT, it -> it.method(cls, 0, 0, 0));
            refused("method of " + cls + ", ahead of the number", ALL, OUT, it -> it.method(cls, 0, 3, -1));
        }
        for (int selector : beyond(0, 15)) {
            refused("selector " + selector, ALL, OUT, it -> it.method(0, selector, 0, 0));
            refused("selector " + selector + ", ahead of the number", ALL, OUT, it -> it.method(2, selector, -1, 5));
            refused("selector and class", ALL, OUT, it -> it.method(12, selector, 0, 0));
        }
        refused("not there yet", FRESH, OUT, it -> it.method(3, 0, 0, 0));
        for (int arguments : beyond(0, 2)) {
            refused("arguments, ahead of the rows", ALL, ARGUMENT, it -> it.method(0, 0, arguments, 0));
        }
        for (int temporaries : beyond(0, 4)) {
            refused("temporaries, ahead of the rows", ALL, ARGUMENT, it -> it.method(2, 15, 2, temporaries));
        }
        refused("both numbers", ALL, ARGUMENT, it -> it.method(0, 0, 3, 5));
        refused("no row is typed", FRESH, UNSUPPORTED, it -> it.method(0, 0, 0, 0));
        refused("no row is typed", FRESH, UNSUPPORTED, it -> it.method(2, 15, 2, 4));
        refused("not well told", FULL, UNSUPPORTED, it -> it.method(0, 0, 0, 0));
        refused("not well told", FULL, UNSUPPORTED, it -> it.method(11, 15, 2, 4));
        allowed("the least", STANDING, 2, it -> it.method(0, 0, 0, 0));
        allowed("the greatest", STANDING, 2, it -> it.method(4, 15, 2, 4));
    }

    private static void promise09Find() {
        for (int cls : beyond(0, 11)) {
            refused("find for " + cls, ALL, OUT, it -> it.find(cls, 0));
            refused("find for " + cls + " and none told", ALL, OUT, it -> it.find(cls, 14));
        }
        for (int selector : beyond(0, 15)) {
            refused("find selector " + selector, ALL, OUT, it -> it.find(0, selector));
        }
        refused("none is told", ALL, NONE, it -> it.find(0, 14));
        refused("told below alone", STANDING, NONE, it -> it.find(0, 15));
        refused("told below alone", STANDING, NONE, it -> it.find(1, 15));
        refused("none at all", FRESH, NONE, it -> it.find(2, 0));
        allowed("found above", FULL, 3, it -> it.find(11, 15));
        allowed("found there", FULL, 0, it -> it.find(0, 0));
    }

    private static void refusedPlaces(String name, PlaceCall call) {
        for (int cls : beyond(0, 11)) {
            refused(name + " class " + cls, ALL, OUT, it -> call.of(it, cls, 0));
            refused(name + " class " + cls + " and none told", ALL, OUT, it -> call.of(it, cls, 14));
        }
        for (int selector : beyond(0, 15)) {
            refused(name + " selector " + selector, ALL, OUT, it -> call.of(it, 0, selector));
        }
        refused(name + " not there yet", STANDING, OUT, it -> call.of(it, 5, 0));
        refused(name + " none is told", ALL, NONE, it -> call.of(it, 0, 14));
        refused(name + " none of nothing", ALL, NONE, it -> call.of(it, 2, 15));
        refused(name + " only above", List.of(FULL, STANDING), NONE, it -> call.of(it, 4, 15));
        refused(name + " only below", List.of(FULL, STANDING), NONE, it -> call.of(it, 0, 15));
    }

    /** A call for a class and a selector. */
    private interface PlaceCall {
        long of(Sendhouse house, int cls, int selector);
    }

    private static void promises08And10To12PlacesOfMethods() {
        refusedPlaces("remove", Sendhouse::remove);
        refusedPlaces("calls", Sendhouse::calls);
        refusedPlaces("compile", Sendhouse::compile);
        refusedPlaces("isCompiled", (it, cls, selector) -> it.isCompiled(cls, selector) ? 1 : 0);
        allowed("remove", FULL, 12, it -> it.remove(3, 15));
        allowed("calls", FULL, 12, it -> it.calls(3, 15));
        allowed("compile", STANDING, 2, it -> it.compile(3, 15));
        allowed("isCompiled", STANDING, 1, it -> it.isCompiled(0, 1) ? 1 : 0);
    }

    private static void promise13Hot() {
        for (int calls : beyond(0, 99)) {
            refused("hot " + calls, ALL, ARGUMENT, it -> it.hot(calls));
        }
        allowed("hot 0", STANDING, 5, it -> it.hot(0));
        allowed("hot 1", STANDING, 5, it -> it.hot(1));
        allowed("hot 99", FRESH, 0, it -> it.hot(99));
    }

    // ---- globals and things

    private static void promises14To18Globals() {
        for (int global : beyond(0, 7)) {
            refused("number of " + global, ALL, OUT, it -> it.number(global, 1));
            refused("nothing of " + global, ALL, OUT, it -> it.nothing(global));
            refused("kind of " + global, ALL, OUT, it -> it.kind(global));
            refused("value of " + global, ALL, OUT, it -> it.value(global));
        }
        for (int global = 0; global <= 7; global += 7) {
            int it = global;
            allowed("number of " + global, FULL, 60, house -> house.number(it, MIN));
            allowed("nothing of " + global, FULL, 60, house -> house.nothing(it));
            allowed("kind of " + global, FRESH, 'u', house -> house.kind(it));
            allowed("value of " + global, FRESH, 0, house -> house.value(it));
        }
    }

    private static void promise16Make() {
        for (int global : beyond(0, 7)) {
            refused("global " + global + ", also ahead of the 61st", ALL, OUT, it -> it.make(global, 0));
            refused("global " + global + ", ahead of the class", ALL, OUT, it -> it.make(global, 1));
        }
        for (int cls : beyond(0, 11)) {
            refused("class " + cls + ", also ahead of the 61st", ALL, OUT, it -> it.make(0, cls));
            refused("class and global", ALL, OUT, it -> it.make(8, cls));
        }
        refused("not there yet", FRESH, OUT, it -> it.make(0, 3));
        refused("of numbers, also ahead of the 61st", ALL, ARGUMENT, it -> it.make(0, 1));
        refused("of nothing, also ahead of the 61st", ALL, ARGUMENT, it -> it.make(7, 2));
        for (int cls : new int[] {0, 3, 11}) {
            refused("a 61st of " + cls, FULL, STATE, it -> it.make(0, cls));
        }
        allowed("a first", FRESH, 0, it -> it.make(7, 0));
        allowed("a fourth", STANDING, 3, it -> it.make(0, 4));
    }

    private static Sendhouse gone() {
        Sendhouse house = standing();
        house.nothing(1);
        house.collect();
        return house;
    }

    private static void promise19ClassOf() {
        for (int thing : beyond(0, 59)) {
            refused("class of " + thing, ALL, OUT, it -> it.classOf(thing));
        }
        refused("none made", FRESH, OUT, it -> it.classOf(0));
        refused("not made yet", STANDING, OUT, it -> it.classOf(3));
        refused("gone", RefusedTest::gone, OUT, it -> it.classOf(1));
        allowed("the first", FULL, 3, it -> it.classOf(0));
        allowed("the last", FULL, 4, it -> it.classOf(59));
    }

    private static void promises20And21Fields() {
        for (int thing : beyond(0, 59)) {
            refused("field of thing " + thing, ALL, OUT, it -> it.fieldKind(thing, 0));
            refused("value of thing " + thing, ALL, OUT, it -> it.fieldValue(thing, 0));
            refused("field and thing", ALL, OUT, it -> it.fieldKind(thing, -1));
            refused("value and thing", ALL, OUT, it -> it.fieldValue(thing, 8));
        }
        int[] sizes = {4, 8, 0};
        for (int i = 0; i < 3; i++) {
            int thing = i;
            for (int field : beyond(0, sizes[i] - 1)) {
                refused("field " + field, List.of(FULL, STANDING), OUT, it -> it.fieldKind(thing, field));
                refused("value " + field, List.of(FULL, STANDING), OUT, it -> it.fieldValue(thing, field));
            }
        }
        refused("gone", RefusedTest::gone, OUT, it -> it.fieldKind(1, 0));
        refused("gone", RefusedTest::gone, OUT, it -> it.fieldValue(1, 0));
        allowed("the first field", STANDING, 'u', it -> it.fieldKind(0, 0));
        allowed("the last of 4", STANDING, 'u', it -> it.fieldKind(0, 3));
        allowed("the last of 8", STANDING, 0, it -> it.fieldValue(1, 7));
    }

    // ---- runs

    private static void promise24BeginOut() {
        for (int global : beyond(0, 7)) {
            refused("global " + global, ALL, OUT, it -> it.begin(global, 0, 0, 0, 0));
            refused("global, ahead of the arguments", ALL, OUT, it -> it.begin(global, 0, 3, 0, 0));
            refused("global, ahead of none found", ALL, OUT, it -> it.begin(global, 14, 0, 0, 0));
        }
        for (int selector : beyond(0, 15)) {
            refused("selector " + selector, ALL, OUT, it -> it.begin(0, selector, 0, 0, 0));
            refused("selector, ahead of the arguments", ALL, OUT, it -> it.begin(0, selector, -1, 0, 0));
            refused("selector and global", ALL, OUT, it -> it.begin(8, selector, 0, 0, 0));
        }
    }

    private static void promise24BeginArgument() {
        for (int arguments : beyond(0, 2)) {
            refused("arguments, also ahead of one that stands", ALL, ARGUMENT, it -> it.begin(0, 0, arguments, 0, 0));
            refused("arguments, ahead of none found", ALL, ARGUMENT, it -> it.begin(7, 14, arguments, 0, 0));
        }
    }

    private static void promise24BeginStands() {
        for (Supplier<Sendhouse> maker : List.of(FULL, STANDING)) {
            refused("one stands", maker, STATE, it -> it.begin(0, 0, 0, 0, 0));
            refused("one stands", maker, STATE, it -> it.begin(7, 2, 2, MIN, MAX));
            refused("one stands, ahead of none found", maker, STATE, it -> it.begin(0, 14, 0, 0, 0));
            refused("one stands, ahead of other arguments", maker, STATE, it -> it.begin(0, 0, 1, 0, 0));
        }
    }

    private static void promise24BeginUnsupported() {
        refused("none is found", NOT_STANDING, UNSUPPORTED, it -> it.begin(0, 14, 0, 0, 0));
        refused("none is found for nothing", NOT_STANDING, UNSUPPORTED, it -> it.begin(7, 15, 0, 0, 0));
        refused("none at all", FRESH, UNSUPPORTED, it -> it.begin(0, 0, 0, 0, 0));
        for (Supplier<Sendhouse> maker : List.of(FAULTY, ANSWERED, ENDED)) {
            for (int has = 0; has <= 2; has++) {
                int selector = has;
                for (int given = 0; given <= 2; given++) {
                    int arguments = given;
                    if (given == has) {
                        allowed("arguments", maker, 0, it -> it.begin(3, selector, arguments, MIN, MAX));
                    } else {
                        refused("arguments", maker, UNSUPPORTED, it -> it.begin(3, selector, arguments, 0, 0));
                    }
                }
            }
        }
    }

    private static void promise25Go() {
        for (int steps : beyond(1, 500)) {
            refused(steps + " steps, also ahead of none that stands", ALL, ARGUMENT, it -> it.go(steps));
        }
        refused("none stands", NOT_STANDING, STATE, it -> it.go(1));
        refused("none stands", NOT_STANDING, STATE, it -> it.go(500));
        allowed("1 step", STANDING, 1, it -> it.go(1));
        allowed("500 steps", FULL, 1, it -> it.go(500));
    }

    private static void promise26End() {
        refused("no frames", WITHOUT_FRAMES, STATE, Sendhouse::end);
        int[] frames = {12, 2, 1};
        for (int i = 0; i < frames.length; i++) {
            allowed("end", WITH_FRAMES.get(i), frames[i], Sendhouse::end);
        }
    }

    private static void promises28To30ReasonAndAnswer() {
        refused("no fault", List.of(FRESH, FULL, STANDING, ANSWERED, ENDED), NONE, Sendhouse::reason);
        refused("no answer", List.of(FRESH, FULL, STANDING, FAULTY, ENDED), NONE, Sendhouse::answer);
        refused("no answer's kind", List.of(FRESH, FULL, STANDING, FAULTY, ENDED), NONE, Sendhouse::answerKind);
        refused("a fault that was ended", RefusedTest::endedFault, NONE, Sendhouse::reason);
        refused("an answer ahead of a new run", RefusedTest::begunAnew, NONE, Sendhouse::answer);
        refused("its kind", RefusedTest::begunAnew, NONE, Sendhouse::answerKind);
        allowed("reason", FAULTY, 'z', Sendhouse::reason);
        allowed("answer", ANSWERED, 5, Sendhouse::answer);
        allowed("answerKind", ANSWERED, 'n', Sendhouse::answerKind);
    }

    private static Sendhouse endedFault() {
        Sendhouse house = faulty();
        house.end();
        return house;
    }

    private static Sendhouse begunAnew() {
        Sendhouse house = answered();
        house.begin(0, 2, 2, 0, 0);
        return house;
    }

    private static void promise33Frame() {
        for (int frame : beyond(0, 11)) {
            refused("frame " + frame, ALL, OUT, it -> it.frame(frame, 'c'));
            refused("frame " + frame + ", ahead of the letter", ALL, OUT, it -> it.frame(frame, 'x'));
        }
        refused("no frames", WITHOUT_FRAMES, OUT, it -> it.frame(0, 'r'));
        refused("no frames, ahead of the letter", WITHOUT_FRAMES, OUT, it -> it.frame(0, 'p'));
        refused("none behind the last", STANDING, OUT, it -> it.frame(2, 'd'));
        for (char what : "atpxCSRDz0 \u0000\uffff".toCharArray()) {
            refused("letter " + (int) what, WITH_FRAMES, ARGUMENT, it -> it.frame(0, what));
        }
        refused("letter of the last", FULL, ARGUMENT, it -> it.frame(11, 'a'));
        allowed("the last of 12", FULL, 15, it -> it.frame(11, 's'));
        allowed("the first", STANDING, 5, it -> it.frame(0, 'r'));
    }

    /** A call for a frame, a letter and an index. */
    private interface SlotCall {
        long of(Sendhouse house, int frame, char what, int index);
    }

    private static void promises34And35Slots() {
        List<SlotCall> calls = new ArrayList<>();
        calls.add(Sendhouse::slotKind);
        calls.add(Sendhouse::slot);
        for (SlotCall call : calls) {
            refusedSlotsOut(call);
            refusedSlotLetters(call);
            refusedSlotPlaces(call);
        }
        for (int index : new int[] {MIN, -1, 0, 1, 8, MAX}) {
            allowed("receiver at " + index, STANDING, 'n', it -> it.slotKind(1, 's', index));
            allowed("receiver at " + index, STANDING, 4, it -> it.slot(1, 's', index));
        }
        allowed("the last argument", STANDING, 'o', it -> it.slotKind(1, 'a', 1));
        allowed("the last temporary", STANDING, 'u', it -> it.slotKind(1, 't', 2));
        allowed("the first of the pile", STANDING, 1, it -> it.slot(0, 'p', 0));
    }

    private static void refusedSlotsOut(SlotCall call) {
        for (int frame : beyond(0, 11)) {
            refused("slot of frame " + frame, ALL, OUT, it -> call.of(it, frame, 's', 0));
            refused("slot, ahead of the letter", ALL, OUT, it -> call.of(it, frame, 'x', 0));
            refused("slot, ahead of the place", ALL, OUT, it -> call.of(it, frame, 'a', 2));
        }
        refused("no frames", WITHOUT_FRAMES, OUT, it -> call.of(it, 0, 's', 0));
        refused("none behind the last", STANDING, OUT, it -> call.of(it, 2, 's', 0));
    }

    private static void refusedSlotLetters(SlotCall call) {
        for (char what : "crdxSATP0 \u0000\uffff".toCharArray()) {
            refused("letter " + (int) what, WITH_FRAMES, ARGUMENT, it -> call.of(it, 0, what, 0));
            refused("letter, ahead of the place", WITH_FRAMES, ARGUMENT, it -> call.of(it, 0, what, -1));
        }
    }

    private static void refusedSlotPlaces(SlotCall call) {
        int[][] counts = {{1, 2, 2}, {2, 3, 1}};
        for (int i = 0; i < 2; i++) {
            int frame = i;
            for (int j = 0; j < 3; j++) {
                char what = "atp".charAt(j);
                for (int index : beyond(0, counts[i][j] - 1)) {
                    refused("place " + what + index, STANDING, NONE, it -> call.of(it, frame, what, index));
                }
            }
        }
        for (char what : "atp".toCharArray()) {
            refused("none of " + what, FULL, NONE, it -> call.of(it, 11, what, what == 'p' ? 1 : 0));
        }
    }

    private static void promises37And38Written() {
        for (int index : beyond(0, 2)) {
            refused("written " + index, ALL, NONE, it -> it.writtenKind(index));
            refused("written value " + index, ALL, NONE, it -> it.writtenValue(index));
        }
        refused("none was written", FRESH, NONE, it -> it.writtenKind(0));
        refused("none was written", FRESH, NONE, it -> it.writtenValue(0));
        allowed("the first", ANSWERED, 'n', it -> it.writtenKind(0));
        allowed("the last", ANSWERED, 'u', it -> it.writtenKind(2));
        allowed("the one between", ANSWERED, 3, it -> it.writtenValue(1));
    }

    private static Sendhouse noneTold() {
        Sendhouse house = house();
        house.remove(3, 15);
        for (int selector = 0; selector < 4; selector++) {
            house.remove(0, selector);
        }
        return house;
    }

    private static void promises39And40Figures() {
        for (Supplier<Sendhouse> maker : List.<Supplier<Sendhouse>>of(FRESH, RefusedTest::noneTold)) {
            refused("none are told", maker, ARITHMETIC, it -> (long) it.compiledShare());
            refused("none are told", maker, ARITHMETIC, it -> (long) it.meanCalls());
        }
        allowed("a fifth", STANDING, 200, it -> (long) (it.compiledShare() * 1000f));
        allowed("two of five", STANDING, 400, it -> (long) (it.meanCalls() * 1000.0));
    }
}
