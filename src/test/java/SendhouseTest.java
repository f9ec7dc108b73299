import java.util.NoSuchElementException;

/** A test for each promise: ordinary inputs, edges, and wrong inputs. */
public final class SendhouseTest {
    private static final Class<? extends Exception> OUT = IndexOutOfBoundsException.class;
    private static final Class<? extends Exception> ARGUMENT = IllegalArgumentException.class;
    private static final Class<? extends Exception> STATE = IllegalStateException.class;
    private static final Class<? extends Exception> UNSUPPORTED = UnsupportedOperationException.class;
    private static final Class<? extends Exception> NONE = NoSuchElementException.class;
    private static final Class<? extends Exception> ARITHMETIC = ArithmeticException.class;
    private static final Due CHECK = new Due();

    public static void main(String[] args) {
        classesAndMethods();
        compiling();
        globalsAndThings();
        runs();
        figures();
        parts();
        CHECK.finish("SendhouseTest");
    }

    private static void classesAndMethods() {
        promise01NewObject();
        promise02Add();
        promise02AddUpTo12();
        promise03And04ClassesAndFields();
        promise05Row();
        promise06Wipe();
        promise07Method();
        promise07WellToldPile();
        promise07WellToldRowsThatAreThere();
        promise07WellToldNames();
        promise08Remove();
        promise09Find();
        promise10Calls();
    }

    private static void compiling() {
        promise11Compile();
        promise12IsCompiled();
        promise13Hot();
    }

    private static void globalsAndThings() {
        promise14And15NumberAndNothing();
        promise16Make();
        promise17And18KindAndValue();
        promise19ClassOf();
        promise20And21Fields();
        promise22Things();
        promise23CollectFromGlobalsAndFields();
        promise23CollectFromFrames();
        promise23CollectFromAnswer();
    }

    private static void runs() {
        promise24Begin();
        promise24BeginThrows();
        promise25Go();
        promise25GoThrows();
        promise26End();
        promise27State();
        promise28Reason();
        promise29And30Answer();
        promise31Steps();
        promise32And33Frames();
        promise34And35Slots();
        promise36To38Written();
    }

    private static void figures() {
        promise39CompiledShare();
        promise40MeanCalls();
        promise41Checksum();
        promise42IsSound();
    }

    private static void parts() {
        part3Putting();
        part3Reckoning();
        part3SameAndClass();
        part3Jumps();
        part4SendsUpAndAbove();
        part4Faults();
        part4FieldsOfOthers();
        part4TwelveFrames();
        part4SixtyThings();
        part5StepsOfY();
        part5StandsAheadOfSteps();
        part5FaultAtOnce();
        part5ToldWhileItStands();
        manyWrites();
    }

    private static void promise01NewObject() {
        Sendhouse house = new Sendhouse();
        CHECK.due("1 classes", house.classes(), 3);
        CHECK.due("1 fields", house.fields(0) + house.fields(1) + house.fields(2), 0);
        for (int cls = 0; cls < 3; cls++) {
            for (int selector = 0; selector < 16; selector++) {
                int c = cls;
                int s = selector;
                CHECK.dueThrow("1 no method", house, NONE, () -> house.find(c, s));
            }
        }
        for (int global = 0; global < 8; global++) {
            CHECK.due("1 global kind", house.kind(global), 'u');
            CHECK.due("1 global value", house.value(global), 0);
        }
        CHECK.due("1 things", house.things(), 0);
        CHECK.due("1 frames", house.frames(), 0);
        CHECK.due("1 steps", house.steps(), 0);
        CHECK.due("1 written", house.written(), 0);
        CHECK.due("1 state", house.state(), '-');
        CHECK.due("1 wipe", house.wipe(), 0);
        CHECK.due("1 hot", house.hot(0), 0);
        CHECK.due("1 sound", house.isSound(), true);
    }

    private static void promise02Add() {
        Sendhouse house = new Sendhouse();
        CHECK.due("2 first", house.add(0, 4), 3);
        CHECK.due("2 second", house.add(3, 4), 4);
        CHECK.due("2 without fields below 8", house.add(4, 0), 5);
        CHECK.due("2 fields", house.fields(5), 8);
        CHECK.dueThrow("2 nine fields", house, ARGUMENT, () -> house.add(4, 1));
        CHECK.dueThrow("2 five fields", house, ARGUMENT, () -> house.add(0, 5));
        CHECK.dueThrow("2 no such class", house, OUT, () -> house.add(6, 0));
        CHECK.dueThrow("2 below none", house, OUT, () -> house.add(-1, 0));
        CHECK.dueThrow("2 far class", house, OUT, () -> house.add(Integer.MIN_VALUE, 9));
        CHECK.dueThrow("2 below numbers", house, ARGUMENT, () -> house.add(1, 0));
        CHECK.dueThrow("2 below nothing", house, ARGUMENT, () -> house.add(2, 0));
        CHECK.dueThrow("2 minus one field", house, ARGUMENT, () -> house.add(0, -1));
        CHECK.dueThrow("2 many fields", house, ARGUMENT, () -> house.add(0, Integer.MAX_VALUE));
        CHECK.dueThrow("2 class first", house, OUT, () -> house.add(12, 9));
    }

    private static void promise02AddUpTo12() {
        Sendhouse house = new Sendhouse();
        for (int i = 3; i < 12; i++) {
            CHECK.due("2 number", house.add(i == 3 ? 0 : i - 1, 0), i);
        }
        CHECK.dueThrow("2 a 13th", house, STATE, () -> house.add(0, 0));
        CHECK.dueThrow("2 a 13th, wrong number first", house, ARGUMENT, () -> house.add(0, 5));
        CHECK.dueThrow("2 a 13th, wrong class first", house, OUT, () -> house.add(12, 0));
        CHECK.due("2 in all", house.classes(), 12);
    }

    private static void promise03And04ClassesAndFields() {
        Sendhouse house = new Sendhouse();
        house.add(0, 3);
        CHECK.due("3 classes", house.classes(), 4);
        house.add(3, 2);
        CHECK.due("3 classes more", house.classes(), 5);
        CHECK.due("4 own", house.fields(3), 3);
        CHECK.due("4 own and above", house.fields(4), 5);
        CHECK.due("4 numbers", house.fields(1), 0);
        CHECK.dueThrow("4 no such", house, OUT, () -> house.fields(5));
        CHECK.dueThrow("4 below none", house, OUT, () -> house.fields(-1));
    }

    private static void promise05Row() {
        Sendhouse house = new Sendhouse();
        String letters = "nusatfgTFGdp+-*/<=kcmMjyrw";
        for (char letter = 0; letter < 400; letter++) {
            char it = letter;
            if (letters.indexOf(letter) >= 0) {
                house.wipe();
                CHECK.due("5 letter " + letter, house.row(letter, Integer.MIN_VALUE, Integer.MAX_VALUE), 1);
            } else {
                CHECK.dueThrow("5 no letter " + (int) letter, house, ARGUMENT, () -> house.row(it, 0, 0));
            }
        }
        CHECK.dueThrow("5 far letter", house, ARGUMENT, () -> house.row('\uffff', 0, 0));
        house.wipe();
        for (int i = 1; i <= 24; i++) {
            CHECK.due("5 typed", house.row('n', i, i), i);
        }
        CHECK.dueThrow("5 a 25th", house, STATE, () -> house.row('n', 0, 0));
        CHECK.dueThrow("5 a 25th, wrong letter first", house, ARGUMENT, () -> house.row('x', 0, 0));
        CHECK.due("5 still 24", house.wipe(), 24);
    }

    private static void promise06Wipe() {
        Sendhouse house = new Sendhouse();
        Due.type(house, "s r u");
        CHECK.due("6 three", house.wipe(), 3);
        CHECK.due("6 none", house.wipe(), 0);
        CHECK.due("6 anew", house.row('r', 0, 0), 1);
        house.wipe();
        Due.tell(house, 0, 0, 0, 0, "u r");
        CHECK.due("6 told ones are gone", house.wipe(), 0);
    }

    private static void promise07Method() {
        Sendhouse house = new Sendhouse();
        CHECK.due("7 rows", Due.tell(house, 0, 0, 0, 0, "s r"), 2);
        CHECK.due("7 rows are gone", house.wipe(), 0);
        CHECK.due("7 last of all", Due.tell(house, 2, 15, 2, 4, "a1 T3 t3 r"), 4);
        CHECK.due("7 24 rows", Due.tell(house, 1, 1, 0, 0, "u p u p u p u p u p u p u p u p u p u p u p u r"), 24);
        CHECK.dueThrow("7 no row", house, UNSUPPORTED, () -> house.method(0, 0, 0, 0));
        Due.type(house, "s r");
        CHECK.dueThrow("7 class", house, OUT, () -> house.method(3, 0, 0, 0));
        CHECK.dueThrow("7 class below", house, OUT, () -> house.method(-1, 0, 3, 0));
        CHECK.dueThrow("7 selector", house, OUT, () -> house.method(0, 16, 3, 5));
        CHECK.dueThrow("7 selector below", house, OUT, () -> house.method(0, -1, 0, 0));
        CHECK.dueThrow("7 arguments", house, ARGUMENT, () -> house.method(0, 0, 3, 0));
        CHECK.dueThrow("7 arguments below", house, ARGUMENT, () -> house.method(0, 0, -1, 0));
        CHECK.dueThrow("7 temporaries", house, ARGUMENT, () -> house.method(0, 0, 0, 5));
        CHECK.dueThrow("7 temporaries below", house, ARGUMENT, () -> house.method(0, 0, 0, -1));
        CHECK.due("7 rows stay when it throws", house.wipe(), 2);
        CHECK.dueThrow("7 number ahead of no row", house, ARGUMENT, () -> house.method(0, 0, 0, 5));
        Due.type(house, "p r");
        CHECK.dueThrow("7 not well told", house, UNSUPPORTED, () -> house.method(0, 0, 0, 0));
        CHECK.dueThrow("7 number ahead of not well told", house, ARGUMENT, () -> house.method(0, 0, 3, 0));
        CHECK.due("7 rows stay when not well told", house.wipe(), 2);
        CHECK.due("7 the one there stays", house.find(0, 0), 0);
    }

    private static void dueTold(String rows, boolean can) {
        CHECK.due("7 told: " + rows, Due.canTell(new Sendhouse(), 0, 1, 1, rows), can);
    }

    private static void promise07WellToldPile() {
        for (String one : new String[] {"T0", "G0", "p", "y0", "w", "d", "k", "r", "m0,0", "M0,0"}) {
            dueTold(one + (one.equals("r") ? "" : " u r"), false);
            dueTold("u " + one + (one.equals("r") ? "" : " u r"), true);
        }
        for (String two : new String[] {"+", "-", "*", "/", "<", "=", "m0,1", "M0,1"}) {
            dueTold("u " + two + " r", false);
            dueTold("u u " + two + " r", true);
            dueTold("u u " + two + " p r", false);
        }
        dueTold("u u m0,2 r", false);
        dueTold("u u u m0,2 r", true);
        dueTold("u u u m0,2 p r", false);
        dueTold("u u M0,2 r", false);
        dueTold("u u u M0,2 r", true);
        dueTold("u p r", false);
        dueTold("u T0 r", false);
        dueTold("u G0 r", false);
        dueTold("u w r", false);
        dueTold("u y2 r", false);
        dueTold("u d p p r", false);
        dueTold("u d p r", true);
        dueTold("u k p r", false);
        dueTold("c0 p r", false);
        dueTold("c0 r", true);
        dueTold("n s u a0 t0 g0 u u r", true);
        dueTold("n s u a0 t0 g0 u u u r", false);
        dueTold("n s u a0 t0 g0 u d r", true);
        dueTold("n s u a0 t0 g0 u u d r", false);
        dueTold("u u u u u u u u r", true);
        dueTold("u j0", false);
        dueTold("u p j0", true);
        dueTold("u y3 u u r", false);
        dueTold("u y3 u p u r", false);
        dueTold("u u y4 j5 r r", true);
        dueTold("u u y5 p j6 r r", false);
        dueTold("u y4 u j5 u r", true);
        dueTold("u y4 u u u r", false);
    }

    private static void promise07WellToldRowsThatAreThere() {
        dueTold("u", false);
        dueTold("j0", true);
        dueTold("j1", false);
        dueTold("j-1", false);
        dueTold("j" + Integer.MIN_VALUE, false);
        dueTold("j" + Integer.MAX_VALUE, false);
        dueTold("u y0", false);
        dueTold("u y-1 u r", false);
        dueTold("u y4 u r", false);
        dueTold("u y3 u r", false);
        dueTold("u y2 u r", true);
        dueTold("u r p + a9 j99", true);
        dueTold("j3 j99 c1 u r", true);
        dueTold("j1 j2 j0", true);
        dueTold("r u r", false);
        dueTold("u p u p u p u p u p u p u p u p u p u p u p u r", true);
        dueTold("u p u p u p u p u p u p u p u p u p u p u p u p", false);
        dueTold("u p u p u p u p u p u p u p u p u p u p u p p j0", false);
    }

    private static void dueNamed(int cls, int arguments, int temporaries, String rows, boolean can) {
        Sendhouse house = new Sendhouse();
        house.add(0, 2);
        house.add(3, 3);
        CHECK.due("7 named: " + rows, Due.canTell(house, cls, arguments, temporaries, rows), can);
    }

    private static void promise07WellToldNames() {
        dueNamed(0, 0, 0, "a0 r", false);
        dueNamed(0, 2, 0, "a1 r", true);
        dueNamed(0, 2, 4, "a2 r", false);
        dueNamed(0, 2, 4, "a-1 r", false);
        dueNamed(0, 2, 0, "t0 r", false);
        dueNamed(0, 2, 4, "t3 r", true);
        dueNamed(0, 2, 4, "t4 r", false);
        dueNamed(0, 2, 3, "u T3 u r", false);
        dueNamed(0, 2, 4, "u T3 u r", true);
        dueNamed(0, 2, 4, "u T-1 u r", false);
        dueNamed(0, 0, 0, "f0 r", false);
        dueNamed(1, 0, 0, "f0 r", false);
        dueNamed(3, 0, 0, "f1 r", true);
        dueNamed(3, 0, 0, "f2 r", false);
        dueNamed(4, 0, 0, "f4 r", true);
        dueNamed(4, 0, 0, "f5 r", false);
        dueNamed(4, 0, 0, "f-1 r", false);
        dueNamed(4, 0, 0, "u F4 u r", true);
        dueNamed(4, 0, 0, "u F5 u r", false);
        dueNamed(0, 0, 0, "g7 r", true);
        dueNamed(0, 0, 0, "g8 r", false);
        dueNamed(0, 0, 0, "u G7 u r", true);
        dueNamed(0, 0, 0, "u G8 u r", false);
        dueNamed(0, 0, 0, "u G-1 u r", false);
        dueNamed(0, 0, 0, "c0 r", true);
        dueNamed(0, 0, 0, "c1 r", false);
        dueNamed(0, 0, 0, "c2 r", false);
        dueNamed(0, 0, 0, "c4 r", true);
        dueNamed(0, 0, 0, "c5 r", false);
        dueNamed(0, 0, 0, "c-1 r", false);
        dueNamed(0, 0, 0, "u m15,0 r", true);
        dueNamed(0, 0, 0, "u m16,0 r", false);
        dueNamed(0, 0, 0, "u m-1,0 r", false);
        dueNamed(0, 0, 0, "u M16,0 r", false);
        dueNamed(0, 0, 0, "u m0,-1 r", false);
        dueNamed(0, 0, 0, "u u u u m0,3 r", false);
        dueNamed(0, 0, 0, "u M0,-1 r", false);
        dueNamed(0, 0, 0, "u m0," + Integer.MAX_VALUE + " r", false);
        dueNamed(0, 0, 0, "u" + Integer.MIN_VALUE + ",99 r77,77", true);
    }

    private static void promise08Remove() {
        Sendhouse house = Due.numberHouse(7, 0, 0, "s r");
        CHECK.dueThrow("8 none there", house, NONE, () -> house.remove(1, 1));
        CHECK.dueThrow("8 not the one above", house, NONE, () -> house.remove(0, 0));
        CHECK.dueThrow("8 class", house, OUT, () -> house.remove(3, 0));
        CHECK.dueThrow("8 class below", house, OUT, () -> house.remove(-1, 0));
        CHECK.dueThrow("8 selector", house, OUT, () -> house.remove(1, 16));
        CHECK.dueThrow("8 selector below", house, OUT, () -> house.remove(1, -1));
        house.begin(0, 0, 0, 0, 0);
        house.go(1);
        house.begin(0, 0, 0, 0, 0);
        CHECK.due("8 called twice", house.remove(1, 0), 2);
        CHECK.dueThrow("8 gone", house, NONE, () -> house.remove(1, 0));
        CHECK.dueThrow("8 not found", house, NONE, () -> house.find(1, 0));
        CHECK.due("8 goes on as it was", house.go(1), 0);
        CHECK.due("8 answer", Due.outcome(house), "n7");
        Due.tell(house, 1, 0, 0, 0, "s r");
        CHECK.due("8 never called", house.remove(1, 0), 0);
    }

    private static void promise09Find() {
        Sendhouse house = new Sendhouse();
        house.add(0, 0);
        house.add(3, 0);
        Due.tell(house, 0, 2, 0, 0, "s r");
        CHECK.due("9 from above all", house.find(4, 2), 0);
        CHECK.due("9 for numbers", house.find(1, 2), 0);
        Due.tell(house, 3, 2, 0, 0, "s r");
        CHECK.due("9 from right above", house.find(4, 2), 3);
        Due.tell(house, 4, 2, 2, 0, "s r");
        CHECK.due("9 its own", house.find(4, 2), 4);
        CHECK.due("9 of the one above", house.find(3, 2), 3);
        CHECK.due("9 of nothing", house.find(2, 2), 0);
        CHECK.dueThrow("9 none", house, NONE, () -> house.find(4, 3));
        CHECK.dueThrow("9 class", house, OUT, () -> house.find(5, 2));
        CHECK.dueThrow("9 class below", house, OUT, () -> house.find(-1, 2));
        CHECK.dueThrow("9 selector", house, OUT, () -> house.find(0, 16));
        CHECK.dueThrow("9 selector below", house, OUT, () -> house.find(0, -1));
    }

    private static void promise10Calls() {
        Sendhouse house = Due.numberHouse(7, 0, 0, "s m1,0 s m1,0 + r");
        Due.tell(house, 0, 1, 0, 0, "n1 r");
        house.begin(0, 0, 0, 0, 0);
        CHECK.due("10 as a run begins", house.calls(1, 0), 1);
        CHECK.due("10 not sent yet", house.calls(0, 1), 0);
        house.go(1);
        CHECK.due("10 sent", house.calls(0, 1), 1);
        house.compile(0, 1);
        house.compile(1, 0);
        house.go(1);
        CHECK.due("10 compiled too", house.calls(0, 1), 2);
        Due.tell(house, 0, 1, 0, 0, "n1 r");
        CHECK.due("10 told anew", house.calls(0, 1), 0);
        CHECK.dueThrow("10 none there", house, NONE, () -> house.calls(1, 1));
        CHECK.dueThrow("10 class", house, OUT, () -> house.calls(3, 0));
        CHECK.dueThrow("10 class below", house, OUT, () -> house.calls(-1, 0));
        CHECK.dueThrow("10 selector", house, OUT, () -> house.calls(0, 16));
        CHECK.dueThrow("10 selector below", house, OUT, () -> house.calls(0, -1));
        Sendhouse faulty = Due.numberHouse(7, 0, 0, "s u m0,1 r");
        faulty.begin(0, 0, 0, 0, 0);
        faulty.go(9);
        CHECK.due("10 a send with a fault is no call", faulty.calls(1, 0), 1);
    }

    private static void promise11Compile() {
        Sendhouse house = Due.numberHouse(7, 0, 0, "s r");
        Due.tell(house, 0, 15, 0, 0, "s r");
        CHECK.due("11 one", house.compile(1, 0), 1);
        CHECK.due("11 once more", house.compile(1, 0), 1);
        CHECK.due("11 two", house.compile(0, 15), 2);
        CHECK.dueThrow("11 none there", house, NONE, () -> house.compile(0, 0));
        CHECK.dueThrow("11 not the one above", house, NONE, () -> house.compile(1, 15));
        CHECK.dueThrow("11 class", house, OUT, () -> house.compile(3, 0));
        CHECK.dueThrow("11 class below", house, OUT, () -> house.compile(-1, 0));
        CHECK.dueThrow("11 selector", house, OUT, () -> house.compile(0, 16));
        CHECK.dueThrow("11 selector below", house, OUT, () -> house.compile(0, -1));
        house.remove(0, 15);
        CHECK.due("11 one is away", house.compile(1, 0), 1);
    }

    private static void promise12IsCompiled() {
        Sendhouse house = Due.numberHouse(7, 0, 0, "s r");
        CHECK.due("12 not at first", house.isCompiled(1, 0), false);
        house.compile(1, 0);
        CHECK.due("12 as told", house.isCompiled(1, 0), true);
        Due.tell(house, 1, 0, 0, 0, "s r");
        CHECK.due("12 told anew", house.isCompiled(1, 0), false);
        house.compile(1, 0);
        house.remove(1, 0);
        Due.tell(house, 1, 0, 0, 0, "s r");
        CHECK.due("12 taken away", house.isCompiled(1, 0), false);
        CHECK.dueThrow("12 none there", house, NONE, () -> house.isCompiled(0, 0) ? 1 : 0);
        CHECK.dueThrow("12 class", house, OUT, () -> house.isCompiled(3, 0) ? 1 : 0);
        CHECK.dueThrow("12 class below", house, OUT, () -> house.isCompiled(-1, 0) ? 1 : 0);
        CHECK.dueThrow("12 selector", house, OUT, () -> house.isCompiled(0, 16) ? 1 : 0);
        CHECK.dueThrow("12 selector below", house, OUT, () -> house.isCompiled(0, -1) ? 1 : 0);
    }

    private static void promise13Hot() {
        Sendhouse house = Due.numberHouse(7, 0, 0, "s m1,0 p s m1,0 p s m1,0 r");
        Due.tell(house, 1, 1, 0, 0, "s r");
        CHECK.due("13 none at first", house.hot(99), 0);
        CHECK.due("13 the one ahead", house.hot(3), 99);
        CHECK.dueThrow("13 below 0", house, ARGUMENT, () -> house.hot(-1));
        CHECK.dueThrow("13 above 99", house, ARGUMENT, () -> house.hot(100));
        house.begin(0, 0, 0, 0, 0);
        house.go(2);
        CHECK.due("13 the second call", house.isCompiled(1, 1), false);
        house.go(1);
        CHECK.due("13 the third call", house.isCompiled(1, 1), true);
        CHECK.due("13 another one", house.isCompiled(1, 0), false);
        CHECK.due("13 still 3", house.hot(1), 3);
        CHECK.due("13 not by telling", house.isCompiled(1, 0), false);
        house.begin(0, 0, 0, 0, 0);
        CHECK.due("13 a later call, as a run begins", house.isCompiled(1, 0), true);
        Due.tell(house, 1, 1, 0, 0, "s r");
        house.hot(0);
        house.go(9);
        CHECK.due("13 none", house.isCompiled(1, 1), false);
        house.hot(2);
        house.begin(0, 0, 0, 0, 0);
        house.go(1);
        CHECK.due("13 later than n", house.isCompiled(1, 1), true);
    }

    private static void promise14And15NumberAndNothing() {
        Sendhouse house = new Sendhouse();
        CHECK.due("14 no things", house.number(0, 5), 0);
        house.make(1, 0);
        CHECK.due("14 one thing", house.number(7, Integer.MIN_VALUE), 1);
        CHECK.due("14 value", house.value(7), Integer.MIN_VALUE);
        CHECK.due("14 kind", house.kind(7), 'n');
        CHECK.due("14 thing over", house.number(1, -1), 1);
        CHECK.due("14 value below", house.value(1), -1);
        CHECK.dueThrow("14 global", house, OUT, () -> house.number(8, 0));
        CHECK.dueThrow("14 global below", house, OUT, () -> house.number(-1, 0));
        CHECK.due("15 one thing", house.nothing(7), 1);
        CHECK.due("15 kind", house.kind(7), 'u');
        CHECK.due("15 value", house.value(7), 0);
        CHECK.due("15 others stay", house.value(0), 5);
        CHECK.dueThrow("15 global", house, OUT, () -> house.nothing(8));
        CHECK.dueThrow("15 global below", house, OUT, () -> house.nothing(-1));
    }

    private static void promise16Make() {
        Sendhouse house = new Sendhouse();
        house.add(0, 2);
        CHECK.dueThrow("16 of numbers", house, ARGUMENT, () -> house.make(0, 1));
        CHECK.dueThrow("16 of nothing", house, ARGUMENT, () -> house.make(0, 2));
        CHECK.dueThrow("16 global", house, OUT, () -> house.make(8, 0));
        CHECK.dueThrow("16 global below", house, OUT, () -> house.make(-1, 1));
        CHECK.dueThrow("16 class", house, OUT, () -> house.make(0, 4));
        CHECK.dueThrow("16 class below", house, OUT, () -> house.make(0, -1));
        for (int i = 0; i < 60; i++) {
            CHECK.due("16 number", house.make(7, i % 2 == 0 ? 3 : 0), i);
        }
        CHECK.due("16 kind", house.kind(7), 'o');
        CHECK.due("16 value", house.value(7), 59);
        CHECK.dueThrow("16 60 are there", house, STATE, () -> house.make(0, 0));
        CHECK.dueThrow("16 60 are there, class first", house, ARGUMENT, () -> house.make(0, 1));
        CHECK.due("16 gone", house.collect(), 59);
        CHECK.due("16 numbers are not given again", house.make(0, 3), 60);
        CHECK.due("16 fields have nothing", house.fieldKind(60, 0) + house.fieldKind(60, 1), 2 * 'u');
    }

    private static void promise17And18KindAndValue() {
        Sendhouse house = new Sendhouse();
        house.make(6, 0);
        house.make(7, 0);
        house.number(5, -9);
        CHECK.due("17 thing", house.kind(7), 'o');
        CHECK.due("18 thing", house.value(7), 1);
        CHECK.due("17 first thing", house.kind(6), 'o');
        CHECK.due("18 first thing", house.value(6), 0);
        CHECK.due("17 number", house.kind(5), 'n');
        CHECK.due("18 number", house.value(5), -9);
        CHECK.due("17 nothing", house.kind(4), 'u');
        CHECK.due("18 nothing", house.value(4), 0);
        CHECK.dueThrow("17 global", house, OUT, () -> house.kind(8));
        CHECK.dueThrow("17 global below", house, OUT, () -> house.kind(-1));
        CHECK.dueThrow("18 global", house, OUT, () -> house.value(8));
        CHECK.dueThrow("18 global below", house, OUT, () -> house.value(-1));
    }

    private static void promise19ClassOf() {
        Sendhouse house = new Sendhouse();
        house.add(0, 0);
        house.make(0, 3);
        house.make(1, 0);
        house.make(2, 3);
        CHECK.due("19 first", house.classOf(0), 3);
        CHECK.due("19 second", house.classOf(1), 0);
        house.nothing(1);
        CHECK.due("19 there till collected", house.classOf(1), 0);
        house.collect();
        CHECK.dueThrow("19 gone", house, OUT, () -> house.classOf(1));
        CHECK.due("19 others stay", house.classOf(2), 3);
        CHECK.dueThrow("19 not made yet", house, OUT, () -> house.classOf(3));
        CHECK.dueThrow("19 below", house, OUT, () -> house.classOf(-1));
        CHECK.dueThrow("19 far", house, OUT, () -> house.classOf(Integer.MAX_VALUE));
    }

    private static void promise20And21Fields() {
        Sendhouse house = new Sendhouse();
        house.add(0, 2);
        house.add(3, 1);
        house.make(0, 4);
        Due.tell(house, 4, 0, 0, 0, "n-5 F0 s F2 u F1 s r");
        CHECK.due("20 new", house.fieldKind(0, 0), 'u');
        CHECK.due("21 new", house.fieldValue(0, 2), 0);
        house.make(1, 4);
        house.begin(1, 0, 0, 0, 0);
        house.go(1);
        CHECK.due("20 number", house.fieldKind(1, 0), 'n');
        CHECK.due("21 number", house.fieldValue(1, 0), -5);
        CHECK.due("20 nothing", house.fieldKind(1, 1), 'u');
        CHECK.due("21 nothing", house.fieldValue(1, 1), 0);
        CHECK.due("20 thing", house.fieldKind(1, 2), 'o');
        CHECK.due("21 thing", house.fieldValue(1, 2), 1);
        CHECK.due("20 another thing", house.fieldKind(0, 0), 'u');
        CHECK.dueThrow("20 field", house, OUT, () -> house.fieldKind(1, 3));
        CHECK.dueThrow("20 field below", house, OUT, () -> house.fieldKind(1, -1));
        CHECK.dueThrow("20 thing", house, OUT, () -> house.fieldKind(2, 0));
        CHECK.dueThrow("21 field", house, OUT, () -> house.fieldValue(1, 3));
        CHECK.dueThrow("21 field below", house, OUT, () -> house.fieldValue(1, -1));
        CHECK.dueThrow("21 thing", house, OUT, () -> house.fieldValue(-1, 0));
        house.nothing(0);
        house.collect();
        CHECK.dueThrow("20 gone", house, OUT, () -> house.fieldKind(0, 0));
        CHECK.dueThrow("21 gone", house, OUT, () -> house.fieldValue(0, 0));
    }

    private static void promise22Things() {
        Sendhouse house = Due.numberHouse(7, 0, 0, "c0 p c0 r");
        house.make(1, 0);
        CHECK.due("22 made", house.things(), 1);
        house.begin(0, 0, 0, 0, 0);
        house.go(1);
        CHECK.due("22 made by rows", house.things(), 3);
        house.make(1, 0);
        CHECK.due("22 not gone by itself", house.things(), 4);
        house.collect();
        CHECK.due("22 collected", house.things(), 2);
    }

    private static void promise23CollectFromGlobalsAndFields() {
        Sendhouse house = new Sendhouse();
        house.add(0, 2);
        Due.tell(house, 3, 0, 0, 0, "g1 F0 g0 F1 u r");
        CHECK.due("23 none", house.collect(), 0);
        house.make(2, 3);
        house.make(1, 3);
        house.make(0, 3);
        house.begin(0, 0, 0, 0, 0);
        house.go(1);
        house.begin(1, 0, 0, 0, 0);
        house.go(1);
        house.nothing(1);
        CHECK.due("23 a field reaches", house.collect(), 0);
        house.nothing(2);
        CHECK.due("23 one", house.collect(), 1);
        CHECK.due("23 again", house.collect(), 0);
        CHECK.due("23 field is as it was", house.fieldValue(2, 0), 1);
        house.nothing(0);
        CHECK.due("23 a ring that nothing reaches", house.collect(), 2);
        CHECK.due("23 none left", house.things(), 0);
        Sendhouse chain = new Sendhouse();
        chain.add(0, 1);
        Due.tell(chain, 3, 0, 0, 0, "g1 F0 s G1 u r");
        for (int i = 0; i < 60; i++) {
            chain.make(0, 3);
            chain.begin(0, 0, 0, 0, 0);
            chain.go(1);
        }
        chain.nothing(0);
        CHECK.due("23 a chain of 60", chain.collect(), 0);
        chain.nothing(1);
        CHECK.due("23 all of a chain", chain.collect(), 60);
    }

    private static void promise23CollectFromFrames() {
        Sendhouse house = new Sendhouse();
        house.make(0, 0);
        Due.tell(house, 0, 0, 0, 1, "c0 T0 c0 c0 c0 m1,1 u / r");
        Due.tell(house, 0, 1, 1, 0, "u G0 j2");
        house.begin(0, 0, 0, 0, 0);
        house.go(1);
        house.make(7, 0);
        house.nothing(7);
        CHECK.due("23 all of the frames are reached", house.collect(), 1);
        CHECK.due("23 receiver, temporary, pile, argument", house.things(), 5);
        Due.tell(house, 0, 1, 1, 0, "u r");
        house.end();
        CHECK.due("23 ended", house.collect(), 5);
        house.make(0, 0);
        house.begin(0, 0, 0, 0, 0);
        house.go(9);
        CHECK.due("23 a fault", Due.outcome(house), "xk");
        house.nothing(0);
        CHECK.due("23 a fault's frames reach", house.collect(), 2);
        CHECK.due("23 a fault's frames", house.things(), 3);
        CHECK.due("23 sound", house.isSound(), true);
    }

    private static void promise23CollectFromAnswer() {
        Sendhouse house = Due.numberHouse(7, 0, 0, "c0 w c0 d w r");
        Due.tell(house, 1, 1, 0, 0, "j0");
        house.begin(0, 0, 0, 0, 0);
        house.go(1);
        CHECK.due("23 what was written reaches nothing", house.collect(), 1);
        CHECK.due("23 written stays", house.writtenValue(0), 0);
        CHECK.due("23 the answer reaches", house.answer(), 1);
        CHECK.due("23 its class", house.classOf(1), 0);
        CHECK.dueThrow("23 a begin that throws", house, UNSUPPORTED, () -> house.begin(0, 2, 0, 0, 0));
        CHECK.due("23 keeps the answer", house.collect(), 0);
        house.begin(0, 1, 0, 0, 0);
        CHECK.due("23 till a run begins anew", house.collect(), 1);
    }

    private static void promise24Begin() {
        Sendhouse house = new Sendhouse();
        house.add(0, 0);
        house.make(3, 3);
        Due.tell(house, 0, 5, 2, 3, "a0 a1 - r");
        CHECK.due("24 found above", house.begin(3, 5, 2, 10, -4), 0);
        CHECK.due("24 it stands", house.state(), 's');
        CHECK.due("24 one frame", house.frames(), 1);
        CHECK.due("24 class", house.frame(0, 'c'), 0);
        CHECK.due("24 selector", house.frame(0, 's'), 5);
        CHECK.due("24 row", house.frame(0, 'r'), 0);
        CHECK.due("24 depth", house.frame(0, 'd'), 0);
        CHECK.due("24 receiver", "" + house.slotKind(0, 's', 0) + house.slot(0, 's', 0), "o0");
        CHECK.due("24 x", "" + house.slotKind(0, 'a', 0) + house.slot(0, 'a', 0), "n10");
        CHECK.due("24 y", "" + house.slotKind(0, 'a', 1) + house.slot(0, 'a', 1), "n-4");
        CHECK.due("24 temporary", "" + house.slotKind(0, 't', 2) + house.slot(0, 't', 2), "u0");
        CHECK.due("24 no step", house.steps(), 0);
        house.go(1);
        CHECK.due("24 outcome", Due.outcome(house), "n14");
        Due.tell(house, 3, 5, 1, 0, "a0 r");
        CHECK.due("24 found", house.begin(3, 5, 1, 8, 9), 3);
        house.go(1);
        CHECK.due("24 one argument", Due.outcome(house), "n8");
        Due.tell(house, 1, 5, 0, 0, "s r");
        Due.tell(house, 2, 5, 0, 0, "n2 r");
        house.number(0, 4);
        CHECK.due("24 a number", house.begin(0, 5, 0, 8, 9), 1);
        house.go(1);
        CHECK.due("24 nothing", house.begin(7, 5, 0, 8, 9), 2);
    }

    private static void promise24BeginThrows() {
        Sendhouse house = Due.numberHouse(7, 1, 0, "j0");
        CHECK.dueThrow("24 global", house, OUT, () -> house.begin(8, 0, 1, 0, 0));
        CHECK.dueThrow("24 global below", house, OUT, () -> house.begin(-1, 0, 1, 0, 0));
        CHECK.dueThrow("24 selector", house, OUT, () -> house.begin(0, 16, 3, 0, 0));
        CHECK.dueThrow("24 selector below", house, OUT, () -> house.begin(0, -1, 1, 0, 0));
        CHECK.dueThrow("24 arguments", house, ARGUMENT, () -> house.begin(0, 0, 3, 0, 0));
        CHECK.dueThrow("24 arguments below", house, ARGUMENT, () -> house.begin(0, 0, -1, 0, 0));
        CHECK.dueThrow("24 no method", house, UNSUPPORTED, () -> house.begin(0, 1, 0, 0, 0));
        CHECK.dueThrow("24 fewer arguments", house, UNSUPPORTED, () -> house.begin(0, 0, 0, 0, 0));
        CHECK.dueThrow("24 more arguments", house, UNSUPPORTED, () -> house.begin(0, 0, 2, 0, 0));
        house.begin(0, 0, 1, 0, 0);
        CHECK.dueThrow("24 one stands", house, STATE, () -> house.begin(0, 0, 1, 0, 0));
        CHECK.dueThrow("24 one stands, ahead of no method", house, STATE, () -> house.begin(0, 1, 1, 0, 0));
        CHECK.dueThrow("24 one stands, arguments first", house, ARGUMENT, () -> house.begin(0, 0, 3, 0, 0));
        CHECK.dueThrow("24 one stands, global first", house, OUT, () -> house.begin(8, 0, 1, 0, 0));
        house.end();
        CHECK.due("24 ended", house.begin(0, 0, 1, 0, 0), 1);
    }

    private static void promise25Go() {
        Sendhouse house = Due.numberHouse(3, 0, 1, "s T0 t0 n1 - T0 t0 y2 t0 r");
        house.begin(0, 0, 0, 0, 0);
        CHECK.due("25 one", house.go(1), 1);
        CHECK.due("25 stands ahead of a step", house.frame(0, 'r'), 7);
        CHECK.due("25 the rest", house.go(500), 1);
        CHECK.due("25 answer", Due.outcome(house), "n0");
        house.begin(0, 0, 0, 0, 0);
        CHECK.due("25 just enough", house.go(2), 2);
        CHECK.due("25 goes on to its answer", Due.outcome(house), "n0");
        Due.tell(house, 1, 0, 0, 0, "j0");
        house.begin(0, 0, 0, 0, 0);
        CHECK.due("25 at most", house.go(500), 500);
        CHECK.due("25 stands", house.state(), 's');
        CHECK.due("25 goes on", house.go(7), 7);
    }

    private static void promise25GoThrows() {
        Sendhouse house = Due.numberHouse(7, 0, 0, "s r");
        CHECK.dueThrow("25 none begun", house, STATE, () -> house.go(1));
        CHECK.dueThrow("25 none begun, range first", house, ARGUMENT, () -> house.go(0));
        house.begin(0, 0, 0, 0, 0);
        CHECK.dueThrow("25 none", house, ARGUMENT, () -> house.go(0));
        CHECK.dueThrow("25 below", house, ARGUMENT, () -> house.go(-1));
        CHECK.dueThrow("25 above", house, ARGUMENT, () -> house.go(501));
        house.go(1);
        CHECK.dueThrow("25 over", house, STATE, () -> house.go(1));
        Due.tell(house, 1, 0, 0, 0, "u u + r");
        house.begin(0, 0, 0, 0, 0);
        house.go(1);
        CHECK.due("25 a fault", Due.outcome(house), "xk");
        CHECK.dueThrow("25 after a fault", house, STATE, () -> house.go(1));
        house.end();
        CHECK.dueThrow("25 ended", house, STATE, () -> house.go(1));
    }

    private static void promise26End() {
        Sendhouse house = Due.numberHouse(7, 0, 0, "s m0,0 r");
        CHECK.dueThrow("26 none", house, STATE, house::end);
        house.begin(0, 0, 0, 0, 0);
        house.go(3);
        CHECK.due("26 four", house.end(), 4);
        CHECK.due("26 no frames", house.frames(), 0);
        CHECK.due("26 state", house.state(), '-');
        CHECK.dueThrow("26 ended", house, STATE, house::end);
        house.begin(0, 0, 0, 0, 0);
        house.go(50);
        CHECK.due("26 a fault", house.state(), 'x');
        CHECK.due("26 a fault's frames", house.end(), 12);
        CHECK.due("26 state behind a fault", house.state(), '-');
        CHECK.dueThrow("26 no reason then", house, NONE, house::reason);
        Due.tell(house, 1, 0, 0, 0, "s r");
        house.begin(0, 0, 0, 0, 0);
        house.go(1);
        CHECK.dueThrow("26 answered", house, STATE, house::end);
        CHECK.due("26 the answer stays", Due.outcome(house), "n7");
    }

    private static void promise27State() {
        Sendhouse house = Due.numberHouse(7, 1, 0, "n6 a0 / n0 y6 r j6");
        CHECK.due("27 none begun", house.state(), '-');
        house.begin(0, 0, 1, 2, 0);
        CHECK.due("27 begun", house.state(), 's');
        house.go(1);
        CHECK.due("27 answered", house.state(), 'r');
        house.begin(0, 0, 1, 0, 0);
        CHECK.due("27 stands again", house.state(), 's');
        house.go(1);
        CHECK.due("27 a fault", house.state(), 'x');
        house.begin(0, 0, 1, 1, 0);
        CHECK.due("27 begun behind a fault", house.state(), 's');
        house.end();
        CHECK.due("27 ended", house.state(), '-');
    }

    private static void promise28Reason() {
        Sendhouse house = Due.numberHouse(7, 1, 0, "n6 a0 / r");
        CHECK.dueThrow("28 none begun", house, NONE, house::reason);
        house.begin(0, 0, 1, 0, 0);
        CHECK.dueThrow("28 stands", house, NONE, house::reason);
        house.go(1);
        CHECK.due("28 z", house.reason(), 'z');
        house.begin(0, 0, 1, 2, 0);
        CHECK.dueThrow("28 a new run", house, NONE, house::reason);
        house.go(1);
        CHECK.dueThrow("28 answered", house, NONE, house::reason);
    }

    private static void promise29And30Answer() {
        Sendhouse house = Due.numberHouse(7, 0, 0, "n-3 r");
        CHECK.dueThrow("29 none begun", house, NONE, house::answerKind);
        CHECK.dueThrow("30 none begun", house, NONE, house::answer);
        house.begin(0, 0, 0, 0, 0);
        CHECK.dueThrow("29 stands", house, NONE, house::answerKind);
        CHECK.dueThrow("30 stands", house, NONE, house::answer);
        house.go(1);
        CHECK.due("29 number", house.answerKind(), 'n');
        CHECK.due("30 number", house.answer(), -3);
        Due.tell(house, 1, 0, 0, 0, "u r");
        CHECK.due("30 till then", house.answer(), -3);
        house.begin(0, 0, 0, 0, 0);
        CHECK.dueThrow("30 a new run", house, NONE, house::answer);
        house.go(1);
        CHECK.due("29 nothing", house.answerKind(), 'u');
        CHECK.due("30 nothing", house.answer(), 0);
        Due.tell(house, 1, 0, 0, 0, "c0 p c0 r");
        house.begin(0, 0, 0, 0, 0);
        house.go(1);
        CHECK.due("29 thing", house.answerKind(), 'o');
        CHECK.due("30 thing", house.answer(), 1);
        Due.tell(house, 1, 0, 0, 0, "u u + r");
        house.begin(0, 0, 0, 0, 0);
        house.go(1);
        CHECK.dueThrow("29 a fault", house, NONE, house::answerKind);
        CHECK.dueThrow("30 a fault", house, NONE, house::answer);
    }

    private static void promise31Steps() {
        Sendhouse house = Due.numberHouse(7, 0, 0, "s m1,0 r");
        CHECK.due("31 none", house.steps(), 0);
        house.begin(0, 0, 0, 0, 0);
        house.go(9);
        CHECK.due("31 a send with a fault is a step", house.steps(), 1);
        Due.tell(house, 1, 1, 0, 0, "s s r");
        house.begin(0, 0, 0, 0, 0);
        house.end();
        CHECK.due("31 of all runs", house.steps(), 1);
        Due.tell(house, 1, 0, 0, 0, "s m1,0 r");
        house.begin(0, 0, 0, 0, 0);
        house.go(9);
        CHECK.due("31 one more", house.steps(), 2);
    }

    private static void promise32And33Frames() {
        Sendhouse house = new Sendhouse();
        house.number(0, 7);
        Due.tell(house, 1, 4, 0, 0, "u u s n5 m9,1 r");
        Due.tell(house, 0, 9, 1, 0, "a0 a0 a0 j4 j4");
        CHECK.dueThrow("33 none", house, OUT, () -> house.frame(0, 'c'));
        CHECK.due("32 none", house.frames(), 0);
        house.begin(0, 4, 0, 0, 0);
        house.go(1);
        CHECK.due("32 two", house.frames(), 2);
        CHECK.due("33 c first", house.frame(0, 'c'), 1);
        CHECK.due("33 s first", house.frame(0, 's'), 4);
        CHECK.due("33 r first waits at its row", house.frame(0, 'r'), 4);
        CHECK.due("33 d first without what is sent", house.frame(0, 'd'), 2);
        CHECK.due("33 c last", house.frame(1, 'c'), 0);
        CHECK.due("33 s last", house.frame(1, 's'), 9);
        CHECK.due("33 r last", house.frame(1, 'r'), 4);
        CHECK.due("33 d last", house.frame(1, 'd'), 3);
        CHECK.dueThrow("33 frame", house, OUT, () -> house.frame(2, 'c'));
        CHECK.dueThrow("33 frame below", house, OUT, () -> house.frame(-1, 'c'));
        CHECK.dueThrow("33 frame ahead of letter", house, OUT, () -> house.frame(2, 'x'));
        CHECK.dueThrow("33 letter", house, ARGUMENT, () -> house.frame(0, 'x'));
        CHECK.dueThrow("33 other letter", house, ARGUMENT, () -> house.frame(1, 'p'));
        house.end();
        CHECK.dueThrow("33 ended", house, OUT, () -> house.frame(0, 'c'));
    }

    private static void promise34And35Slots() {
        Sendhouse house = new Sendhouse();
        house.make(0, 0);
        Due.tell(house, 0, 0, 2, 2, "n3 T1 s n9 u s n5 s m1,2 r");
        Due.tell(house, 0, 1, 2, 0, "j0");
        house.begin(0, 0, 2, -1, 4);
        house.go(1);
        CHECK.due("34 receiver", "" + house.slotKind(0, 's', 99) + house.slot(0, 's', -99), "o0");
        CHECK.due("34 argument", "" + house.slotKind(0, 'a', 0) + house.slot(0, 'a', 0), "n-1");
        CHECK.due("34 argument 1", "" + house.slotKind(0, 'a', 1) + house.slot(0, 'a', 1), "n4");
        CHECK.due("34 temporary", "" + house.slotKind(0, 't', 0) + house.slot(0, 't', 0), "u0");
        CHECK.due("34 temporary 1", "" + house.slotKind(0, 't', 1) + house.slot(0, 't', 1), "n3");
        CHECK.due("34 pile from below", "" + house.slotKind(0, 'p', 0) + house.slot(0, 'p', 0), "o0");
        CHECK.due("34 pile 1", "" + house.slotKind(0, 'p', 1) + house.slot(0, 'p', 1), "n9");
        CHECK.due("34 pile 2", "" + house.slotKind(0, 'p', 2) + house.slot(0, 'p', 2), "u0");
        CHECK.due("34 the last argument is the top", "" + house.slotKind(1, 'a', 1) + house.slot(1, 'a', 1), "o0");
        CHECK.due("34 the first is below it", "" + house.slotKind(1, 'a', 0) + house.slot(1, 'a', 0), "n5");
        dueNoSlots(house, 0, 'a', 2);
        dueNoSlots(house, 0, 't', 2);
        dueNoSlots(house, 0, 'p', 3);
        dueNoSlots(house, 1, 't', 0);
        dueNoSlots(house, 1, 'p', 0);
        CHECK.dueThrow("34 frame", house, OUT, () -> house.slotKind(2, 'x', 0));
        CHECK.dueThrow("35 frame", house, OUT, () -> house.slot(2, 'x', 0));
        CHECK.dueThrow("34 frame below", house, OUT, () -> house.slotKind(-1, 's', 0));
        CHECK.dueThrow("35 frame below", house, OUT, () -> house.slot(-1, 's', 0));
        CHECK.dueThrow("34 letter", house, ARGUMENT, () -> house.slotKind(0, 'c', 99));
        CHECK.dueThrow("35 letter", house, ARGUMENT, () -> house.slot(0, 'r', -1));
    }

    private static void dueNoSlots(Sendhouse house, int frame, char what, int index) {
        CHECK.dueThrow("34 no place " + what, house, NONE, () -> house.slotKind(frame, what, index));
        CHECK.dueThrow("35 no place " + what, house, NONE, () -> house.slot(frame, what, index));
        CHECK.dueThrow("34 no place below " + what, house, NONE, () -> house.slotKind(frame, what, -1));
        CHECK.dueThrow("35 no place below " + what, house, NONE, () -> house.slot(frame, what, -1));
    }

    private static void promise36To38Written() {
        Sendhouse house = Due.numberHouse(7, 0, 0, "n-2 w u w c0 p c0 w s r");
        CHECK.due("36 none", house.written(), 0);
        CHECK.dueThrow("37 none", house, NONE, () -> house.writtenKind(0));
        CHECK.dueThrow("38 none", house, NONE, () -> house.writtenValue(0));
        house.begin(0, 0, 0, 0, 0);
        house.go(1);
        CHECK.due("36 three", house.written(), 3);
        CHECK.due("37 number", house.writtenKind(0), 'n');
        CHECK.due("38 number", house.writtenValue(0), -2);
        CHECK.due("37 nothing", house.writtenKind(1), 'u');
        CHECK.due("38 nothing", house.writtenValue(1), 0);
        CHECK.due("37 thing", house.writtenKind(2), 'o');
        CHECK.due("38 thing", house.writtenValue(2), 1);
        house.begin(0, 0, 0, 0, 0);
        house.go(1);
        CHECK.due("36 of all runs", house.written(), 6);
        CHECK.due("38 behind", house.writtenValue(5), 3);
        CHECK.dueThrow("37 place", house, NONE, () -> house.writtenKind(6));
        CHECK.dueThrow("37 place below", house, NONE, () -> house.writtenKind(-1));
        CHECK.dueThrow("38 place", house, NONE, () -> house.writtenValue(6));
        CHECK.dueThrow("38 place below", house, NONE, () -> house.writtenValue(Integer.MIN_VALUE));
    }

    private static void promise39CompiledShare() {
        Sendhouse house = new Sendhouse();
        CHECK.dueThrow("39 none", house, ARITHMETIC, () -> (long) house.compiledShare());
        Due.tell(house, 0, 0, 0, 0, "s r");
        Due.tell(house, 1, 0, 0, 0, "s r");
        Due.tell(house, 2, 15, 0, 0, "s r");
        CHECK.due("39 no share", house.compiledShare(), 0.0f);
        house.compile(1, 0);
        CHECK.due("39 a third", house.compiledShare(), 1.0f / 3.0f);
        house.compile(2, 15);
        CHECK.due("39 two thirds", house.compiledShare(), 2.0f / 3.0f);
        house.remove(0, 0);
        CHECK.due("39 all", house.compiledShare(), 1.0f);
        house.remove(1, 0);
        house.remove(2, 15);
        CHECK.dueThrow("39 none again", house, ARITHMETIC, () -> (long) house.compiledShare());
    }

    private static void promise40MeanCalls() {
        Sendhouse house = new Sendhouse();
        CHECK.dueThrow("40 none", house, ARITHMETIC, () -> (long) house.meanCalls());
        house.number(0, 7);
        Due.tell(house, 1, 0, 0, 0, "s m1,0 p s m1,0 r");
        Due.tell(house, 1, 1, 0, 0, "s r");
        Due.tell(house, 2, 1, 0, 0, "s r");
        CHECK.due("40 not called", house.meanCalls(), 0.0);
        house.begin(0, 0, 0, 0, 0);
        house.go(9);
        CHECK.due("40 one", house.meanCalls(), 1.0);
        house.begin(0, 0, 0, 0, 0);
        CHECK.due("40 four thirds", house.meanCalls(), 4.0 / 3.0);
        house.remove(1, 1);
        CHECK.due("40 two of two", house.meanCalls(), 1.0);
    }

    private static long sumOf(long... each) {
        long sum = 7;
        for (long one : each) {
            sum = 31 * sum + one;
        }
        return sum;
    }

    private static void promise41Checksum() {
        Sendhouse house = new Sendhouse();
        CHECK.due("41 new", house.checksum(),
                sumOf(0, 'u', 0, 'u', 0, 'u', 0, 'u', 0, 'u', 0, 'u', 0, 'u', 0, 'u', 0, '-'));
        house.add(0, 2);
        house.make(7, 0);
        house.make(0, 3);
        house.make(1, 0);
        house.number(6, -5);
        house.nothing(7);
        house.collect();
        Due.tell(house, 3, 2, 2, 1, "n-6 w s w a1 F1 s T0 u s a0 m3,1 r");
        Due.tell(house, 0, 3, 1, 0, "j0");
        house.begin(0, 2, 2, 8, 9);
        house.go(2);
        CHECK.due("41 stands", house.checksum(), sumOf(2,
                'o', 1, 'o', 2, 'u', 0, 'u', 0, 'u', 0, 'u', 0, 'n', -5, 'u', 0,
                1, 3, 'u', 0, 'n', 9, 2, 0,
                's',
                3, 2, 11, 'o', 1, 'n', 8, 'n', 9, 'o', 1, 'u', 0,
                0, 3, 0, 'o', 1, 'n', 8,
                'n', -6, 'o', 1));
        house.end();
        CHECK.due("41 ended", house.checksum(), sumOf(2,
                'o', 1, 'o', 2, 'u', 0, 'u', 0, 'u', 0, 'u', 0, 'n', -5, 'u', 0,
                1, 3, 'u', 0, 'n', 9, 2, 0, '-', 'n', -6, 'o', 1));
    }

    private static void promise42IsSound() {
        Sendhouse house = new Sendhouse();
        CHECK.due("42 new", house.isSound(), true);
        house.add(0, 1);
        for (int i = 0; i < 60; i++) {
            house.make(0, 3);
        }
        CHECK.due("42 60 things", house.isSound(), true);
        Due.tell(house, 3, 0, 0, 1, "s F0 s d T0 s m0,0 r");
        house.begin(0, 0, 0, 0, 0);
        CHECK.due("42 begun", house.isSound(), true);
        house.go(5);
        CHECK.due("42 stands", house.isSound(), true);
        house.collect();
        CHECK.due("42 collected", house.isSound(), true);
        house.go(50);
        CHECK.due("42 a fault", house.isSound(), true);
        house.nothing(0);
        house.collect();
        CHECK.due("42 collected behind a fault", house.isSound(), true);
        Due.tell(house, 2, 0, 0, 0, "c3 d w r");
        house.begin(1, 0, 0, 0, 0);
        house.collect();
        house.go(1);
        house.collect();
        CHECK.due("42 answered", house.isSound(), true);
    }

    private static void part3Putting() {
        CHECK.due("n", Due.outcome("n-12 r", 0, 0), "n-12");
        CHECK.due("n keeps all bits", Due.outcome("n-2147483648 r", 0, 0), "n-2147483648");
        CHECK.due("u", Due.outcome("u r", 0, 0), "u0");
        CHECK.due("s", Due.outcome("s r", 0, 0), "n7");
        CHECK.due("a", Due.outcome("a0 r", 3, 4), "n3");
        CHECK.due("a1", Due.outcome("a1 r", 3, 4), "n4");
        CHECK.due("t", Due.outcome("t3 r", 3, 4), "u0");
        CHECK.due("T", Due.outcome("n5 T3 n6 T2 t3 t2 - r", 3, 4), "n-1");
        CHECK.due("g", Due.outcome("g0 r", 3, 4), "n7");
        CHECK.due("G", Due.outcome("n8 G0 g0 s + r", 3, 4), "n15");
        CHECK.due("d", Due.outcome("n8 d * r", 3, 4), "n64");
        CHECK.due("p", Due.outcome("n8 n9 p r", 3, 4), "n8");
        CHECK.due("r leaves what is below", Due.outcome("n8 n9 r", 3, 4), "n9");
        CHECK.due("j ahead", Due.outcome("j3 u r n1 r", 3, 4), "n1");
    }

    private static void part3Reckoning() {
        int[] some = {0, 1, -1, 2, -7, 7, 100, Integer.MAX_VALUE, Integer.MIN_VALUE};
        for (int x : some) {
            for (int y : some) {
                CHECK.due("+", Due.outcome("a0 a1 + r", x, y), "n" + (x + y));
                CHECK.due("-", Due.outcome("a0 a1 - r", x, y), "n" + (x - y));
                CHECK.due("*", Due.outcome("a0 a1 * r", x, y), "n" + x * y);
                CHECK.due("/", Due.outcome("a0 a1 / r", x, y), y == 0 ? "xz" : "n" + x / y);
                CHECK.due("<", Due.outcome("a0 a1 < r", x, y), "n" + (x < y ? 1 : 0));
                CHECK.due("=", Due.outcome("a0 a1 = r", x, y), "n" + (x == y ? 1 : 0));
            }
        }
        for (String letter : new String[] {"+", "-", "*", "/", "<"}) {
            CHECK.due("first is no number", Due.outcome("u a0 " + letter + " r", 0, 0), "xk");
            CHECK.due("second is no number", Due.outcome("a0 c0 " + letter + " r", 0, 0), "xk");
        }
    }

    private static void part3SameAndClass() {
        CHECK.due("nothing is nothing", Due.outcome("u u = r", 0, 0), "n1");
        CHECK.due("nothing is not 0", Due.outcome("u n0 = r", 0, 0), "n0");
        CHECK.due("a thing is not its number", Due.outcome("c0 n0 = r", 0, 0), "n0");
        CHECK.due("a thing is itself", Due.outcome("c0 d = r", 0, 0), "n1");
        CHECK.due("a thing is not another", Due.outcome("c0 c0 = r", 0, 0), "n0");
        CHECK.due("class of a number", Due.outcome("n9 k r", 0, 0), "n1");
        CHECK.due("class of nothing", Due.outcome("u k r", 0, 0), "n2");
        CHECK.due("class of a thing", Due.outcome("c0 k r", 0, 0), "n0");
        CHECK.due("a new thing", Due.outcome("c0 p c0 r", 0, 0), "o1");
    }

    private static void part3Jumps() {
        CHECK.due("y goes there", Due.outcome("a0 y4 n1 r n2 r", 5, 0), "n2");
        CHECK.due("y below 0 too", Due.outcome("a0 y4 n1 r n2 r", -5, 0), "n2");
        CHECK.due("y does not", Due.outcome("a0 y4 n1 r n2 r", 0, 0), "n1");
        CHECK.due("y without a number", Due.outcome("u y4 n1 r n2 r", 0, 0), "xk");
        CHECK.due("y with a thing", Due.outcome("c0 y4 n1 r n2 r", 0, 0), "xk");
        CHECK.due("y to the next row", Due.outcome("a0 y2 n1 r", 0, 0), "n1");
    }

    /** Classes 3 below 0, 4 below 3, 5 below 4, and a thing of 5 in the global 0. */
    private static Sendhouse family() {
        Sendhouse house = new Sendhouse();
        house.add(0, 1);
        house.add(3, 1);
        house.add(4, 0);
        house.make(0, 5);
        return house;
    }

    private static void part4SendsUpAndAbove() {
        Sendhouse house = family();
        Due.tell(house, 0, 1, 0, 0, "n10 r");
        Due.tell(house, 3, 1, 0, 0, "n3 s M1,0 + r");
        Due.tell(house, 5, 1, 0, 0, "n5 s M1,0 + r");
        house.begin(0, 1, 0, 0, 0);
        house.go(9);
        CHECK.due("above the class it was told for", Due.outcome(house), "n18");
        CHECK.due("steps", house.steps(), 2);
        Due.tell(house, 5, 2, 1, 0, "a0 M1,0 r");
        Due.tell(house, 4, 1, 0, 0, "s r");
        house.begin(0, 2, 1, 77, 0);
        house.go(9);
        CHECK.due("above, with another receiver", Due.outcome(house), "n77");
        Due.tell(house, 0, 3, 0, 0, "s M3,0 r");
        house.begin(0, 3, 0, 0, 0);
        house.go(9);
        CHECK.due("nothing is above 0", Due.outcome(house), "xu");
        Due.tell(house, 1, 3, 0, 0, "n4 s M3,0 r");
        Due.tell(house, 0, 3, 0, 0, "s n1 + r");
        house.number(1, 20);
        house.begin(1, 3, 0, 0, 0);
        house.go(9);
        CHECK.due("above numbers", Due.outcome(house), "n21");
        Due.tell(house, 0, 4, 2, 0, "a0 a1 - r");
        Due.tell(house, 5, 5, 0, 0, "s n9 n2 m4,2 r");
        house.begin(0, 5, 0, 0, 0);
        house.go(9);
        CHECK.due("the last argument was the top", Due.outcome(house), "n7");
    }

    private static void dueFault(String rows, String fault, int row, int depth) {
        Sendhouse house = family();
        Due.tell(house, 0, 1, 1, 0, "a0 r");
        Due.tell(house, 5, 0, 0, 0, rows);
        house.begin(0, 0, 0, 0, 0);
        house.go(99);
        CHECK.due("fault of " + rows, Due.outcome(house), fault);
        CHECK.due("row of " + rows, house.frame(house.frames() - 1, 'r'), row);
        CHECK.due("pile of " + rows, house.frame(house.frames() - 1, 'd'), depth);
        CHECK.due("sound at " + rows, house.isSound(), true);
    }

    private static void part4Faults() {
        dueFault("u s m2,0 r", "xu", 2, 2);
        dueFault("u s m1,0 r", "xu", 2, 2);
        dueFault("u s u u m1,2 r", "xu", 4, 4);
        dueFault("u s M0,0 r", "xu", 2, 2);
        dueFault("u u n1 + r", "xk", 3, 3);
        dueFault("u n1 n0 / r", "xz", 3, 3);
        dueFault("u u n0 / r", "xk", 3, 3);
        dueFault("n0 s n0 / r", "xk", 3, 3);
        dueFault("n0 u y3 r", "xk", 2, 2);
        dueFault("c0 p c0 p j0", "xm", 2, 0);
    }

    private static void part4FieldsOfOthers() {
        Sendhouse house = family();
        Due.tell(house, 3, 1, 0, 0, "f0 r");
        Due.tell(house, 3, 2, 1, 0, "a0 F0 u r");
        Due.tell(house, 4, 3, 0, 0, "g1 M1,0 r");
        Due.tell(house, 4, 4, 0, 0, "g1 n6 M2,1 r");
        house.make(1, 0);
        house.begin(0, 3, 0, 0, 0);
        house.go(9);
        CHECK.due("a thing without the field", Due.outcome(house), "xk");
        CHECK.due("its frame", house.frame(1, 'r'), 0);
        house.begin(0, 4, 0, 0, 0);
        house.go(9);
        CHECK.due("no field to take into", Due.outcome(house), "xk");
        CHECK.due("the pile is as it was", house.frame(1, 'd'), 1);
        house.number(1, 3);
        house.begin(0, 3, 0, 0, 0);
        house.go(9);
        CHECK.due("a number has no field", Due.outcome(house), "xk");
        house.nothing(1);
        house.begin(0, 4, 0, 0, 0);
        house.go(9);
        CHECK.due("nothing has no field", Due.outcome(house), "xk");
        int other = house.add(0, 2);
        int thing = house.make(1, other);
        house.begin(0, 4, 0, 0, 0);
        house.go(9);
        CHECK.due("a field of that number", Due.outcome(house), "u0");
        CHECK.due("taken into it", house.fieldValue(thing, 0), 6);
        house.begin(0, 3, 0, 0, 0);
        house.go(9);
        CHECK.due("and put from it", Due.outcome(house), "n6");
    }

    private static void part4TwelveFrames() {
        Sendhouse house = Due.numberHouse(7, 0, 0, "n1 s m0,0 + r");
        house.begin(0, 0, 0, 0, 0);
        CHECK.due("eleven sends", house.go(11), 11);
        CHECK.due("twelve frames", house.frames(), 12);
        CHECK.due("still stands", house.state(), 's');
        CHECK.due("the twelfth send is a step", house.go(5), 1);
        CHECK.due("a fault", Due.outcome(house), "xd");
        CHECK.due("frames stay", house.frames(), 12);
        CHECK.due("calls", house.calls(1, 0), 12);
        CHECK.due("pile stays", house.frame(11, 'd'), 2);
        Due.tell(house, 1, 0, 1, 0, "a0 y4 s r s a0 n1 - m0,1 r");
        house.begin(0, 0, 1, 11, 0);
        house.go(99);
        CHECK.due("twelve frames are no fault", Due.outcome(house), "n7");
        Due.tell(house, 1, 0, 1, 0, "a0 y5 s m0,0 r s a0 n1 - m0,1 r");
        house.begin(0, 0, 1, 11, 0);
        house.go(99);
        CHECK.due("u is looked at ahead of d", Due.outcome(house), "xu");
    }

    private static void part4SixtyThings() {
        Sendhouse house = Due.numberHouse(7, 0, 0, "u c0 p p j0");
        house.begin(0, 0, 0, 0, 0);
        CHECK.due("60 rounds", house.go(500), 60);
        CHECK.due("no room", Due.outcome(house), "xm");
        CHECK.due("60 are there", house.things(), 60);
        CHECK.due("row", house.frame(0, 'r'), 1);
        CHECK.due("pile", house.frame(0, 'd'), 1);
        CHECK.due("collected", house.collect(), 60);
        house.begin(0, 0, 0, 0, 0);
        CHECK.due("60 more", house.go(500), 60);
        CHECK.due("numbers go on", house.classOf(119), 0);
    }

    private static void part5StepsOfY() {
        Sendhouse house = Due.numberHouse(7, 1, 0, "n1 p a0 y0 n5 r");
        house.begin(0, 0, 1, 0, 0);
        CHECK.due("y that does not go there is no step", house.go(9), 0);
        Due.tell(house, 1, 0, 1, 0, "a0 y3 j3 n5 r");
        house.begin(0, 0, 1, 1, 0);
        CHECK.due("jumps further down are no steps", house.go(9), 0);
        CHECK.due("answer", Due.outcome(house), "n5");
        Due.tell(house, 1, 0, 1, 0, "a0 y0 u r");
        house.begin(0, 0, 1, 1, 0);
        CHECK.due("y up is one", house.go(9), 9);
    }

    private static void part5StandsAheadOfSteps() {
        Sendhouse house = Due.numberHouse(7, 0, 0, "n1 w s m1,0 w n2 w s m1,0 r");
        Due.tell(house, 1, 1, 0, 0, "n4 w s r");
        house.begin(0, 0, 0, 0, 0);
        CHECK.due("one", house.go(1), 1);
        CHECK.due("all ahead of the next step is done", house.written(), 4);
        CHECK.due("frames", house.frames(), 1);
        CHECK.due("row", house.frame(0, 'r'), 8);
        CHECK.due("pile", house.frame(0, 'd'), 1);
        CHECK.due("the last", house.go(1), 1);
        CHECK.due("answer", Due.outcome(house), "n7");
        Due.tell(house, 1, 0, 0, 0, "s m2,0 r");
        Due.tell(house, 1, 2, 0, 0, "s m3,0 r");
        house.begin(0, 0, 0, 0, 0);
        house.go(1);
        CHECK.due("ahead of a send that will be a fault", house.state(), 's');
        CHECK.due("that is a step", house.go(1), 1);
        CHECK.due("its fault", Due.outcome(house), "xu");
    }

    private static void part5FaultAtOnce() {
        Sendhouse house = Due.numberHouse(7, 0, 0, "s m1,0 p u y0 j5");
        Due.tell(house, 1, 1, 0, 0, "s r");
        house.begin(0, 0, 0, 0, 0);
        CHECK.due("one step", house.go(1), 1);
        CHECK.due("y without a number is a fault at once", Due.outcome(house), "xk");
        CHECK.due("its row", house.frame(0, 'r'), 4);
        Due.tell(house, 1, 0, 0, 0, "s m1,0 n0 / r");
        house.begin(0, 0, 0, 0, 0);
        house.go(1);
        CHECK.due("others are too", Due.outcome(house), "xz");
    }

    private static void part5ToldWhileItStands() {
        Sendhouse house = Due.numberHouse(7, 0, 0, "s m1,0 s m1,0 + g1 + r");
        Due.tell(house, 1, 1, 0, 0, "j1 n1 r");
        Due.tell(house, 1, 1, 0, 0, "n0 y0 n1 r");
        house.begin(0, 0, 0, 0, 0);
        house.go(1);
        Due.tell(house, 1, 1, 0, 0, "n50 r");
        Due.tell(house, 1, 0, 0, 0, "u r");
        house.number(1, 600);
        CHECK.due("the second send", house.go(1), 1);
        CHECK.due("by what is there then", Due.outcome(house), "n651");
        CHECK.due("called since it was told anew", house.calls(1, 1), 1);
        Due.tell(house, 1, 0, 0, 0, "s m2,0 r");
        Due.tell(house, 1, 2, 0, 0, "j0");
        house.begin(0, 0, 0, 0, 0);
        house.go(3);
        house.remove(1, 2);
        CHECK.due("a frame goes on with its method", house.go(4), 4);
        CHECK.due("its selector", house.frame(1, 's'), 2);
        CHECK.due("sound", house.isSound(), true);
    }

    private static void manyWrites() {
        Sendhouse house = Due.numberHouse(7, 0, 0, "s w u w s w u w s w u w s w u w s w u w s w j0");
        house.begin(0, 0, 0, 0, 0);
        for (int i = 0; i < 20; i++) {
            CHECK.due("writes on", house.go(500), 500);
        }
        int due = 11 * (20 * 500 + 1);
        CHECK.due("all are kept", house.written(), due);
        long sum = sumOf(20 * 500, 'n', 7, 'u', 0, 'u', 0, 'u', 0, 'u', 0, 'u', 0, 'u', 0, 'u', 0, 's',
                1, 0, 22, 'n', 7);
        for (int i = 0; i < due; i++) {
            boolean first = i % 11 % 2 == 0;
            sum = 31 * (31 * sum + (first ? 'n' : 'u')) + (first ? 7 : 0);
            if (i % 641 == 0) {
                CHECK.due("written kind " + i, house.writtenKind(i), first ? 'n' : 'u');
                CHECK.due("written value " + i, house.writtenValue(i), first ? 7 : 0);
            }
        }
        CHECK.due("sum over all", house.checksum(), sum);
    }
}
