import java.util.NoSuchElementException;

/** A test for each sentence of 'Terms', Part 4 to Part 7, that names a boundary case; the sentence stands above it. */
public final class EdgesOfRunningTest {
    private static final Class<? extends Exception> OUT = IndexOutOfBoundsException.class;
    private static final Class<? extends Exception> STATE = IllegalStateException.class;
    private static final Class<? extends Exception> UNSUPPORTED = UnsupportedOperationException.class;
    private static final Class<? extends Exception> NONE = NoSuchElementException.class;
    private static final int MAX = Integer.MAX_VALUE;
    private static final int MIN = Integer.MIN_VALUE;
    private static final Due CHECK = new Due();

    public static void main(String[] args) {
        sending();
        faults();
        runs();
        calls();
        compiling();
        collecting();
        CHECK.finish("EdgesOfRunningTest");
    }

    private static void sending() {
        argumentsAndReceiverAreTaken();
        foundInTheClassOrAbove();
        aboveTheClassToldFor();
        frameBeginsAnew();
        sendingFrameWaits();
        returnedIsPut();
        answerAndNoFrames();
    }

    private static void faults() {
        noMethod();
        anotherNumberOfArguments();
        twelveFrames();
        noMethodAheadOfTwelveFrames();
        valueOfAnotherKind();
        noFieldOfThatNumber();
        kindAheadOfDivision();
        divisionBy0();
        aThingWhere60AreThere();
        framesStayAheadOfTheRow();
        theRunIsOver();
    }

    private static void runs() {
        beginIsNoStep();
        sendIsAStep();
        faultySendIsAStep();
        jumpToItselfOrAheadIsAStep();
        jumpBehindIsNoStep();
        yIsAStepOnlyIfItGoesThere();
        yWithoutANumber();
        standsAheadOfTheNextStep();
        hasItsAnswerAtJustSoMany();
        steps1To500();
        stepsOfAllRuns();
        endBehindAFault();
    }

    private static void calls() {
        allCanBeToldWhileItStands();
        goesOnByWhatIsThereThen();
        frameKeepsItsMethod();
        countsSinceItWasTold();
        countsNoFaultySend();
        countsAsARunBegins();
        countsAlsoIfBuiltIn();
    }

    private static void compiling() {
        compiledWhenTold();
        compiledAtTheNthCall();
        compiledAtALaterCall();
        compiledAtNoneWith0();
        compiledTillToldAnewOrTakenAway();
        leadsToTheSame();
        comesBackToRowsAtAnyStep();
        faultsInWhatIsCompiled();
    }

    private static void collecting() {
        reachedByAGlobal();
        reachedByEachPlaceOfAFrame();
        reachedByEachOfTwelveFrames();
        reachedByAFaultsFrames();
        reachedByTheAnswer();
        reachedByAField();
        reachedByAChainOf60();
        writtenReachesNothing();
        allOthersAreGone();
    }

    /** The classes 3 to 11, each below the one ahead of it, and a thing of 11 in the global 0. */
    private static Sendhouse chain() {
        Sendhouse house = new Sendhouse();
        for (int cls = 3; cls < 12; cls++) {
            house.add(cls == 3 ? 0 : cls - 1, cls < 7 ? 2 : 0);
        }
        house.make(0, 11);
        return house;
    }

    private static String ranWith(Sendhouse house, int global, int selector, int arguments, int x, int y) {
        house.begin(global, selector, arguments, x, y);
        house.go(500);
        return Due.outcome(house);
    }

    // ---- Part 4, sending

    /** "A send takes the arguments, the last one being the top, and the receiver below them" */
    private static void argumentsAndReceiverAreTaken() {
        Sendhouse house = Due.numberHouse(7, 0, 0, "u n1 n10 n20 n30 m1,2 r");
        Due.tell(house, 1, 1, 2, 0, "j0");
        house.begin(0, 0, 0, 0, 0);
        house.go(1);
        CHECK.due("the receiver below", Due.slot(house, 1, 's', 0), "n10");
        CHECK.due("the first", Due.slot(house, 1, 'a', 0), "n20");
        CHECK.due("the last", Due.slot(house, 1, 'a', 1), "n30");
        CHECK.due("the rest stays", house.frame(0, 'd'), 2);
        CHECK.due("its top", Due.slot(house, 0, 'p', 1), "n1");
        Due.tell(house, 1, 1, 1, 0, "a0 r");
        Due.tell(house, 1, 2, 0, 0, "s r");
        CHECK.due("one argument", told(house, "n10 n20 n30 m1,1 + r"), "n40");
        CHECK.due("none", told(house, "n10 n20 n30 m2,0 + r"), "n50");
        CHECK.due("one, above", told(house, "n10 n20 u M3,1 r"), "xu");
    }

    private static String told(Sendhouse house, String rows) {
        if (house.state() == 's') {
            house.end();
        }
        Due.tell(house, 1, 0, 0, 0, rows);
        return Due.ran(house, 0, 0);
    }

    /** "The method is that of the selector in the class of the receiver, or else in the one above, and so on" */
    private static void foundInTheClassOrAbove() {
        Sendhouse house = chain();
        house.number(1, 5);
        int[] order = {0, 3, 4, 5, 6, 7, 8, 9, 10, 11};
        Due.tell(house, 2, 5, 0, 0, "g0 m4,0 r");
        CHECK.due("none is told", Due.ran(house, 7, 5), "xu");
        for (int cls : order) {
            Due.tell(house, cls, 4, 0, 0, "n" + (100 + cls) + " r");
            CHECK.due("the nearest", Due.ran(house, 7, 5), "n" + (100 + cls));
            CHECK.due("of a run too", house.begin(0, 4, 0, 0, 0), cls);
            house.end();
            CHECK.due("and found", house.find(11, 4), cls);
        }
        CHECK.due("of numbers", Due.ran(house, 1, 4), "n100");
        CHECK.due("of nothing", Due.ran(house, 2, 4), "n100");
        Due.tell(house, 1, 4, 0, 0, "n101 r");
        Due.tell(house, 2, 4, 0, 0, "n102 r");
        CHECK.due("of numbers, their own", Due.ran(house, 1, 4), "n101");
        CHECK.due("of nothing, its own", Due.ran(house, 2, 4), "n102");
        CHECK.due("another selector", Due.answerOf(house, it -> it.find(11, 3)), "NoSuchElementException");
    }

    /** "with 'M' in the class above the one for which the sending method was told, and so on" */
    private static void aboveTheClassToldFor() {
        Sendhouse house = chain();
        Due.tell(house, 11, 4, 0, 0, "s M4,0 n11 + r");
        CHECK.due("none is above", Due.ran(house, 0, 4), "xu");
        Due.tell(house, 0, 4, 0, 0, "n1000 r");
        CHECK.due("far above", Due.ran(house, 0, 4), "n1011");
        Due.tell(house, 5, 4, 0, 0, "s M4,0 n500 + r");
        CHECK.due("above the one it was told for", Due.ran(house, 0, 4), "n1511");
        Due.tell(house, 10, 4, 0, 0, "n7 r");
        CHECK.due("right above", Due.ran(house, 0, 4), "n18");
        Due.tell(house, 0, 4, 0, 0, "s M4,0 r");
        house.make(1, 0);
        CHECK.due("nothing is above 0", Due.ran(house, 1, 4), "xu");
        Due.tell(house, 1, 6, 0, 0, "u M6,0 r");
        Due.tell(house, 2, 6, 0, 0, "n2 r");
        house.number(2, 5);
        CHECK.due("not the receiver's own", Due.ran(house, 2, 6), "xu");
        Due.tell(house, 0, 6, 0, 0, "s r");
        CHECK.due("with any receiver", Due.ran(house, 2, 6), "u0");
    }

    /** "a frame begins, with the receiver, the arguments, temporaries that have nothing, an empty pile, at row 0" */
    private static void frameBeginsAnew() {
        Sendhouse house = Due.numberHouse(7, 0, 0, "s n1 n2 m1,2 p s n3 n4 m2,2 r");
        Due.tell(house, 1, 1, 2, 4, "n5 d T0 d T1 d T2 d T3 r");
        Due.tell(house, 1, 2, 2, 4, "j0");
        house.begin(0, 0, 0, 0, 0);
        house.go(3);
        CHECK.due("two frames", house.frames(), 2);
        CHECK.due("the receiver", Due.slot(house, 1, 's', 0), "n7");
        CHECK.due("the first argument", Due.slot(house, 1, 'a', 0), "n3");
        CHECK.due("the second argument", Due.slot(house, 1, 'a', 1), "n4");
        for (int i = 0; i < 4; i++) {
            CHECK.due("temporary " + i, Due.slot(house, 1, 't', i), "u0");
        }
        CHECK.due("an empty pile", house.frame(1, 'd'), 0);
        CHECK.due("row 0", house.frame(1, 'r'), 0);
    }

    /** "the sending frame waits at its row" */
    private static void sendingFrameWaits() {
        Sendhouse house = Due.numberHouse(7, 0, 0, "u u s m1,0 r");
        Due.tell(house, 1, 1, 0, 0, "u p j2");
        house.begin(0, 0, 0, 0, 0);
        house.go(1);
        CHECK.due("its row", house.frame(0, 'r'), 3);
        CHECK.due("its pile", house.frame(0, 'd'), 2);
        house.go(9);
        CHECK.due("it waits on", house.frame(0, 'r'), 3);
        CHECK.due("the last frame goes on", house.frame(1, 'r'), 2);
    }

    /** "What is returned is put on the pile of the frame that waits, which goes on behind its row" */
    private static void returnedIsPut() {
        Sendhouse house = Due.numberHouse(7, 0, 0, "u u u u u u u s m1,0 j9");
        Due.tell(house, 1, 1, 0, 0, "n8 n9 r");
        house.begin(0, 0, 0, 0, 0);
        house.go(2);
        CHECK.due("one frame", house.frames(), 1);
        CHECK.due("as the eighth value", Due.slot(house, 0, 'p', 7), "n9");
        CHECK.due("8 values", house.frame(0, 'd'), 8);
        CHECK.due("behind its row", house.frame(0, 'r'), 9);
        CHECK.due("sound", house.isSound(), true);
    }

    /** "without one the run has its answer, and no frames" */
    private static void answerAndNoFrames() {
        Sendhouse house = Due.numberHouse(7, 0, 0, "u n8 n9 r");
        CHECK.due("the top is the answer", Due.ran(house, 0, 0), "n9");
        CHECK.due("no frames", house.frames(), 0);
        CHECK.due("state", house.state(), 'r');
        CHECK.dueThrow("no frame 0", house, OUT, () -> house.frame(0, 'r'));
        CHECK.dueThrow("none to end", house, STATE, house::end);
    }

    // ---- Part 4, faults

    /** "It is a fault, 'u', if there is none" */
    private static void noMethod() {
        CHECK.due("for numbers", Due.outcome("n1 m1,0 r", 0, 0), "xu");
        CHECK.due("for nothing", Due.outcome("u m0,0 r", 0, 0), "xu");
        CHECK.due("for a thing", Due.outcome("c0 m0,0 r", 0, 0), "xu");
        CHECK.due("above 1", Due.outcome("s M0,0 r", 0, 0), "xu");
        Sendhouse house = chain();
        Due.tell(house, 11, 0, 0, 0, "g1 m1,0 r");
        Due.tell(house, 4, 1, 0, 0, "n4 r");
        house.make(1, 3);
        CHECK.due("told below alone", Due.ran(house, 0, 0), "xu");
        house.make(1, 4);
        CHECK.due("told", Due.ran(house, 0, 0), "n4");
    }

    /** "or it has another number of arguments" */
    private static void anotherNumberOfArguments() {
        for (int has = 0; has <= 2; has++) {
            for (int sent = 0; sent <= 2; sent++) {
                for (char letter : "mM".toCharArray()) {
                    Sendhouse house = Due.numberHouse(7, 0, 0, "s s s " + letter + "1," + sent + " r");
                    Due.tell(house, 0, 1, has, 0, "n3 r");
                    CHECK.due(letter + " " + sent + " of " + has, Due.ran(house, 0, 0), has == sent ? "n3" : "xu");
                }
            }
        }
        Sendhouse house = chain();
        Due.tell(house, 0, 1, 0, 0, "n3 r");
        Due.tell(house, 4, 1, 1, 0, "n4 r");
        Due.tell(house, 11, 0, 0, 0, "s m1,0 r");
        CHECK.due("one further above is not looked for", Due.ran(house, 0, 0), "xu");
    }

    /** Frames one upon the other, as many as x and one; the last one then does what is told here, with 's' on its pile. */
    private static Sendhouse deep(String last) {
        int further = 4 + last.split(" ").length;
        Sendhouse house = Due.numberHouse(7, 1, 0, "a0 y" + further + " s " + last + " r s a0 n1 - m0,1 r");
        Due.tell(house, 0, 5, 0, 0, "n5 r");
        return house;
    }

    /** "and 'd', if there are 12 frames already" */
    private static void twelveFrames() {
        for (char letter : "mM".toCharArray()) {
            Sendhouse house = deep(letter + "5,0");
            CHECK.due("a 12th by " + letter, ranWith(house, 0, 0, 1, 10, 0), "n5");
            CHECK.due("steps", house.steps(), 11);
            CHECK.due("a 13th by " + letter, ranWith(house, 0, 0, 1, 11, 0), "xd");
            CHECK.due("12 frames", house.frames(), 12);
            CHECK.due("steps, the fault counted", house.steps(), 23);
            CHECK.due("the receiver is still there", Due.slot(house, 11, 'p', 0), "n7");
            CHECK.due("at the send", house.frame(11, 'r'), 3);
            CHECK.dueThrow("no 13th", house, OUT, () -> house.frame(12, 'r'));
            CHECK.due("12 can be ended", house.end(), 12);
        }
        Sendhouse house = deep("k");
        CHECK.due("12 without a further one", ranWith(house, 0, 0, 1, 11, 0), "n1");
        house.begin(0, 0, 1, 11, 0);
        house.go(11);
        CHECK.due("12 stand ahead of no step", Due.outcome(house), "n1");
        house.begin(0, 0, 1, 12, 0);
        house.go(11);
        CHECK.due("12 stand ahead of a send", house.frames(), 12);
        CHECK.due("no fault yet", house.state(), 's');
        house.go(1);
        CHECK.due("then it is one", Due.outcome(house), "xd");
    }

    /** "in this order" */
    private static void noMethodAheadOfTwelveFrames() {
        CHECK.due("none, at 12 frames", ranWith(deep("m6,0"), 0, 0, 1, 11, 0), "xu");
        CHECK.due("none above, at 12 frames", ranWith(deep("M0,0"), 0, 0, 1, 11, 0), "xu");
        CHECK.due("other arguments, at 12 frames", ranWith(deep("s m5,1"), 0, 0, 1, 11, 0), "xu");
        CHECK.due("other arguments above, at 12 frames", ranWith(deep("s M5,1"), 0, 0, 1, 11, 0), "xu");
    }

    /** "'k', if a value is of another kind than must be" */
    private static void valueOfAnotherKind() {
        for (String wrong : new String[] {"u", "c0"}) {
            for (char letter : "+-*/<".toCharArray()) {
                CHECK.due("first of " + letter, Due.outcome(wrong + " n1 " + letter + " r", 0, 0), "xk");
                CHECK.due("second of " + letter, Due.outcome("n1 " + wrong + " " + letter + " r", 0, 0), "xk");
                CHECK.due("both of " + letter, Due.outcome(wrong + " " + wrong + " " + letter + " r", 0, 0), "xk");
            }
            CHECK.due("of y", Due.outcome(wrong + " y2 n1 r", 0, 0), "xk");
            CHECK.due("= takes any", Due.outcome(wrong + " n1 = r", 0, 0), "n0");
            CHECK.due("k takes any", Due.outcome(wrong + " k n2 - k r", 0, 0), "n1");
            CHECK.due("w takes any", Due.outcome(wrong + " w n1 r", 0, 0), "n1");
        }
    }

    /** "or, with 'f' and 'F', the receiver is no thing that has a field of that number, as it can be by 'M'" */
    private static void noFieldOfThatNumber() {
        for (int field = 0; field < 2; field++) {
            Sendhouse house = new Sendhouse();
            house.add(0, 2);
            house.add(3, 0);
            int one = house.add(0, 1);
            Due.tell(house, 3, 1, 0, 0, "n1 f" + field + " r");
            Due.tell(house, 3, 2, 0, 0, "n1 n6 F" + field + " r");
            Due.tell(house, 4, 1, 0, 0, "g1 M1,0 r");
            Due.tell(house, 4, 2, 0, 0, "g1 M2,0 r");
            house.make(0, 4);
            dueNoField(house, "nothing");
            house.number(1, 0);
            dueNoField(house, "a number");
            house.make(1, 0);
            dueNoField(house, "a thing without fields");
            int thing = house.make(1, one);
            if (field == 0) {
                CHECK.due("a thing of another class", Due.ran(house, 0, 2), "n1");
                CHECK.due("that has the field", Due.ran(house, 0, 1), "n6");
                CHECK.due("its field", Due.field(house, thing, 0), "n6");
            } else {
                dueNoField(house, "a thing with one field less");
                CHECK.due("its field", Due.field(house, thing, 0), "u0");
            }
        }
    }

    private static void dueNoField(Sendhouse house, String what) {
        CHECK.due("f of " + what, Due.ran(house, 0, 1), "xk");
        CHECK.due("its row", house.frame(1, 'r'), 1);
        CHECK.due("its pile", house.frame(1, 'd'), 1);
        CHECK.due("F of " + what, Due.ran(house, 0, 2), "xk");
        CHECK.due("its row", house.frame(1, 'r'), 2);
        CHECK.due("its pile", house.frame(1, 'd'), 2);
    }

    /** "this is looked at ahead of 'z', a division by 0" */
    private static void kindAheadOfDivision() {
        CHECK.due("nothing by 0", Due.outcome("u n0 / r", 0, 0), "xk");
        CHECK.due("a thing by 0", Due.outcome("c0 n0 / r", 0, 0), "xk");
        CHECK.due("a number by nothing", Due.outcome("n1 u / r", 0, 0), "xk");
        CHECK.due("a number by the thing 0", Due.outcome("n1 c0 / r", 0, 0), "xk");
    }

    /** "'z', a division by 0" */
    private static void divisionBy0() {
        for (int number : new int[] {MIN, -1, 0, 1, MAX}) {
            CHECK.due(number + " by 0", Due.outcome("a0 a1 / r", number, 0), "xz");
            CHECK.due("0 by " + number, Due.outcome("a0 a1 / r", 0, number), number == 0 ? "xz" : "n0");
        }
        CHECK.due("other reckoning with 0", Due.outcome("n5 n0 * n0 - n0 + n0 < r", 0, 0), "n0");
    }

    /** "'m', a thing where 60 are there" */
    private static void aThingWhere60AreThere() {
        Sendhouse house = Due.numberHouse(7, 0, 0, "u c0 G7 p j0");
        for (int i = 0; i < 58; i++) {
            house.make(1, 0);
        }
        house.begin(0, 0, 0, 0, 0);
        CHECK.due("the 59th and 60th", house.go(2), 2);
        CHECK.due("60", house.things(), 60);
        CHECK.due("no step more", house.state(), 'x');
        CHECK.due("a 61st", Due.outcome(house), "xm");
        CHECK.due("its row", house.frame(0, 'r'), 1);
        CHECK.due("its pile", house.frame(0, 'd'), 1);
        CHECK.due("the last one", Due.global(house, 7), "o59");
        CHECK.due("two are reached", house.collect(), 58);
        CHECK.due("with room again", Due.ran(house, 0, 0), "xm");
        CHECK.due("numbers go on", Due.global(house, 7), "o117");
    }

    private static void dueStays(String rows, String fault, int row, String... pile) {
        Sendhouse house = Due.numberHouse(7, 2, 1, rows);
        Due.tell(house, 1, 1, 0, 0, "n1 r");
        for (int i = 0; i < 60; i++) {
            house.make(1, 0);
        }
        house.begin(0, 0, 2, 3, 4);
        house.go(500);
        CHECK.due(rows, Due.outcome(house), fault);
        CHECK.due("frames of " + rows, house.frames(), 1);
        CHECK.due("row of " + rows, house.frame(0, 'r'), row);
        CHECK.due("pile of " + rows, house.frame(0, 'd'), pile.length);
        for (int i = 0; i < pile.length; i++) {
            CHECK.due("value of " + rows, Due.slot(house, 0, 'p', i), pile[i]);
        }
        CHECK.due("receiver of " + rows, Due.slot(house, 0, 's', 0), "n7");
        CHECK.due("argument of " + rows, Due.slot(house, 0, 'a', 1), "n4");
        CHECK.due("temporary of " + rows, Due.slot(house, 0, 't', 0), "u0");
        CHECK.due("sound at " + rows, house.isSound(), true);
    }

    /** "With a fault .. its frames stay as they were ahead of the row" */
    private static void framesStayAheadOfTheRow() {
        dueStays("u s n1 n2 m2,2 r", "xu", 4, "u0", "n7", "n1", "n2");
        dueStays("u s n1 m1,1 r", "xu", 3, "u0", "n7", "n1");
        dueStays("u s M1,0 r", "xu", 2, "u0", "n7");
        for (char letter : "+-*/<".toCharArray()) {
            dueStays("n9 u n0 " + letter + " r", "xk", 3, "n9", "u0", "n0");
        }
        dueStays("n9 n8 n0 / r", "xz", 3, "n9", "n8", "n0");
        dueStays("n9 u y3 r", "xk", 2, "n9", "u0");
        dueStays("n9 g1 y3 r", "xk", 2, "n9", "o59");
        dueStays("n9 c0 r", "xm", 1, "n9");
        Sendhouse house = deep("m5,0");
        ranWith(house, 0, 0, 1, 11, 0);
        for (int i = 0; i < 11; i++) {
            CHECK.due("a frame that waits", house.frame(i, 'r'), 9);
            CHECK.due("its pile", house.frame(i, 'd'), 0);
            CHECK.due("its argument", Due.slot(house, i, 'a', 0), "n" + (11 - i));
        }
    }

    /** "With a fault the run is over" */
    private static void theRunIsOver() {
        Sendhouse house = Due.numberHouse(7, 0, 0, "n1 w n1 n0 / n2 w r");
        CHECK.due("a fault", Due.ran(house, 0, 0), "xz");
        CHECK.due("what was done stays", house.written(), 1);
        CHECK.dueThrow("no going on", house, STATE, () -> house.go(1));
        CHECK.dueThrow("no answer", house, NONE, house::answer);
        CHECK.due("a run can begin", house.begin(0, 0, 0, 0, 0), 1);
        CHECK.due("its frames alone", house.frames(), 1);
        CHECK.dueThrow("no reason then", house, NONE, house::reason);
    }

    // ---- Part 5, runs

    /** "A run is begun with a receiver, a selector and arguments; it is no step" */
    private static void beginIsNoStep() {
        Sendhouse house = Due.numberHouse(7, 2, 0, "n1 w s a0 a1 m0,2 r");
        house.begin(0, 0, 2, MIN, MAX);
        CHECK.due("no step", house.steps(), 0);
        CHECK.due("no row was done", house.written(), 0);
        CHECK.due("at row 0", house.frame(0, 'r'), 0);
        CHECK.due("it stands", house.state(), 's');
        CHECK.due("the receiver", Due.slot(house, 0, 's', 0), "n7");
        CHECK.due("the first argument", Due.slot(house, 0, 'a', 0), "n" + MIN);
        CHECK.due("the second argument", Due.slot(house, 0, 'a', 1), "n" + MAX);
    }

    /** "A step is a send" */
    private static void sendIsAStep() {
        Sendhouse house = Due.numberHouse(7, 0, 0, "s m1,0 p s M1,0 r");
        Due.tell(house, 0, 1, 0, 0, "s r");
        house.begin(0, 0, 0, 0, 0);
        CHECK.due("m", house.go(1), 1);
        CHECK.due("ahead of M", house.frame(0, 'r'), 4);
        CHECK.due("M", house.go(1), 1);
        CHECK.due("r is none", Due.outcome(house), "n7");
        CHECK.due("two", house.steps(), 2);
    }

    /** "one that has a fault counted" */
    private static void faultySendIsAStep() {
        for (String send : new String[] {"m1,0", "m0,1", "M0,0"}) {
            Sendhouse house = Due.numberHouse(7, 0, 0, "s s " + send + " r");
            house.begin(0, 0, 0, 0, 0);
            CHECK.due("steps of " + send, house.go(500), 1);
            CHECK.due("fault of " + send, Due.outcome(house), "xu");
            CHECK.due("in all", house.steps(), 1);
        }
        Sendhouse house = Due.numberHouse(7, 0, 0, "s m0,0 r");
        house.begin(0, 0, 0, 0, 0);
        CHECK.due("11 sends and one with a fault", house.go(500), 12);
        CHECK.due("its fault", Due.outcome(house), "xd");
    }

    /** "or a jump to the row itself or one ahead of it" */
    private static void jumpToItselfOrAheadIsAStep() {
        Sendhouse itself = Due.numberHouse(7, 0, 0, "j0");
        itself.begin(0, 0, 0, 0, 0);
        CHECK.due("to itself", itself.go(3), 3);
        Sendhouse last = Due.numberHouse(7, 0, 0, "u p j2");
        last.begin(0, 0, 0, 0, 0);
        CHECK.due("to itself further down", last.go(4), 4);
        Sendhouse ahead = Due.numberHouse(7, 0, 0, "j1 j0");
        ahead.begin(0, 0, 0, 0, 0);
        CHECK.due("right ahead", ahead.go(5), 5);
        CHECK.due("it stands at the jump up", ahead.frame(0, 'r'), 1);
        Sendhouse far = Due.numberHouse(7, 0, 0, "n1 w " + "u p ".repeat(10) + "j0");
        far.begin(0, 0, 0, 0, 0);
        CHECK.due("far ahead", far.go(6), 6);
        CHECK.due("and all rows between", far.written(), 7);
    }

    /** So a jump to a row behind is none. */
    private static void jumpBehindIsNoStep() {
        Sendhouse house = Due.numberHouse(7, 0, 0, "j1 j3 j99 n1 y5 n1 y9 u r s r");
        house.begin(0, 0, 0, 0, 0);
        CHECK.due("no step", house.go(1), 0);
        CHECK.due("its answer", Due.outcome(house), "n7");
        CHECK.due("none in all", house.steps(), 0);
    }

    /** "of a 'y' only if it goes there" */
    private static void yIsAStepOnlyIfItGoesThere() {
        Sendhouse house = Due.numberHouse(3, 0, 1, "s T0 t0 n1 - T0 t0 y2 t0 r");
        house.begin(0, 0, 0, 0, 0);
        CHECK.due("twice up, once not", house.go(500), 2);
        CHECK.due("its answer", Due.outcome(house), "n0");
        house.number(0, 1);
        house.begin(0, 0, 0, 0, 0);
        CHECK.due("never up", house.go(1), 0);
        Sendhouse up = Due.numberHouse(7, 0, 0, "n-1 y0 u r");
        up.begin(0, 0, 0, 0, 0);
        CHECK.due("always up", up.go(500), 500);
        CHECK.due("it stands at the y", up.frame(0, 'r'), 1);
        CHECK.due("with its number", Due.slot(up, 0, 'p', 0), "n-1");
        CHECK.due("a y down is none", Due.outcome("n1 y4 u r n4 r", 0, 0), "n4");
    }

    /** "one without a number is a fault at once, and no step" */
    private static void yWithoutANumber() {
        for (String wrong : new String[] {"u", "c0"}) {
            for (String y : new String[] {"y0", "y1", "y3"}) {
                Sendhouse house = Due.numberHouse(7, 0, 0, "j1 " + wrong + " " + y + " j3");
                house.begin(0, 0, 0, 0, 0);
                CHECK.due(wrong + " " + y, house.go(1), 0);
                CHECK.due("a fault", Due.outcome(house), "xk");
                CHECK.due("no step", house.steps(), 0);
            }
            Sendhouse house = Due.numberHouse(7, 0, 0, "s m1,0 p " + wrong + " y0 u r");
            Due.tell(house, 1, 1, 0, 0, "s r");
            house.begin(0, 0, 0, 0, 0);
            CHECK.due("behind all steps", house.go(1), 1);
            CHECK.due("at once", Due.outcome(house), "xk");
        }
    }

    /** "it stands ahead of the next row that is a step when so many were done" */
    private static void standsAheadOfTheNextStep() {
        Sendhouse house = Due.numberHouse(7, 0, 0, "n1 w s m1,0 w n2 w s M1,0 n3 w r");
        Due.tell(house, 0, 1, 0, 0, "n8 w n9 r");
        house.begin(0, 0, 0, 0, 0);
        CHECK.due("one step", house.go(1), 1);
        CHECK.due("all up to the next one", house.written(), 4);
        CHECK.due("the next one", house.frame(0, 'r'), 8);
        CHECK.due("its receiver is on the pile", house.frame(0, 'd'), 1);
        CHECK.due("called once", house.calls(0, 1), 1);
        CHECK.due("the second step", house.go(1), 1);
        CHECK.due("all behind it", house.written(), 6);
        CHECK.due("its answer", Due.outcome(house), "n9");
        Sendhouse faulty = Due.numberHouse(7, 0, 0, "s m1,0 m2,0 r");
        Due.tell(faulty, 1, 1, 0, 0, "s r");
        faulty.begin(0, 0, 0, 0, 0);
        faulty.go(1);
        CHECK.due("also ahead of one that will be a fault", faulty.state(), 's');
        CHECK.due("which is a step", faulty.go(1), 1);
        CHECK.due("and a fault", Due.outcome(faulty), "xu");
    }

    /** "or has its answer, or a fault" */
    private static void hasItsAnswerAtJustSoMany() {
        Sendhouse house = Due.numberHouse(3, 1, 1, "s T0 t0 n1 - T0 t0 y2 n6 a0 / r");
        for (int steps = 1; steps <= 4; steps++) {
            house.begin(0, 0, 1, 2, 0);
            CHECK.due("steps", house.go(steps), Math.min(2, steps));
            CHECK.due("its answer behind 2", Due.outcome(house), steps < 2 ? "s" : "n3");
            if (house.frames() > 0) {
                house.end();
            }
            house.begin(0, 0, 1, 0, 0);
            CHECK.due("steps", house.go(steps), Math.min(2, steps));
            CHECK.due("its fault behind 2", Due.outcome(house), steps < 2 ? "s" : "xz");
            house.end();
        }
    }

    /** "steps: 1 to 500" */
    private static void steps1To500() {
        Sendhouse house = Due.numberHouse(7, 0, 0, "j0");
        house.begin(0, 0, 0, 0, 0);
        CHECK.due("1", house.go(1), 1);
        CHECK.due("500", house.go(500), 500);
        for (int wrong : new int[] {MIN, -500, -1, 0, 501, MAX}) {
            CHECK.dueThrow(wrong + " steps", house, IllegalArgumentException.class, () -> house.go(wrong));
        }
        CHECK.due("499", house.go(499), 499);
        CHECK.due("in all", house.steps(), 1000);
    }

    /** "Returns how many steps were done by all runs" */
    private static void stepsOfAllRuns() {
        Sendhouse house = Due.numberHouse(7, 0, 0, "j0");
        for (int run = 1; run <= 100; run++) {
            house.begin(0, 0, 0, 0, 0);
            house.go(500);
            house.end();
            CHECK.due("steps", house.steps(), 500 * run);
        }
    }

    /** "Ends a run that stands, or a fault's frames: there are no frames then", "'-' none was begun, or it was ended" */
    private static void endBehindAFault() {
        Sendhouse house = Due.numberHouse(7, 0, 0, "s m0,0 r");
        Due.ran(house, 0, 0);
        CHECK.due("a fault's frames", house.end(), 12);
        CHECK.due("none then", house.frames(), 0);
        CHECK.due("it was ended", house.state(), '-');
        CHECK.dueThrow("no fault then", house, NONE, house::reason);
        CHECK.dueThrow("none to end", house, STATE, house::end);
        CHECK.dueThrow("none goes on", house, STATE, () -> house.go(1));
        house.begin(0, 0, 0, 0, 0);
        CHECK.due("a run that stands", house.end(), 1);
        CHECK.due("it was ended", house.state(), '-');
        CHECK.dueThrow("none to end then", house, STATE, house::end);
    }

    // ---- Part 5, telling and counting

    /** "While it stands, all can be told" */
    private static void allCanBeToldWhileItStands() {
        Sendhouse house = Due.numberHouse(7, 0, 0, "j0");
        house.begin(0, 0, 0, 0, 0);
        house.go(1);
        CHECK.due("a class", house.add(0, 4), 3);
        CHECK.due("a method", Due.tell(house, 3, 15, 2, 4, "f3 r"), 2);
        CHECK.due("its own method anew", Due.tell(house, 1, 0, 0, 0, "u r"), 2);
        CHECK.due("compiling", house.compile(1, 0), 1);
        CHECK.due("hot", house.hot(99), 0);
        CHECK.due("a number", house.number(0, 8), 0);
        CHECK.due("a thing", house.make(0, 3), 0);
        CHECK.due("nothing", house.nothing(0), 1);
        CHECK.due("collecting", house.collect(), 1);
        CHECK.due("taking away", house.remove(1, 0), 0);
        CHECK.due("it stands still", house.state(), 's');
        CHECK.due("and goes on", house.go(5), 5);
    }

    /** "and it goes on by what is there then" */
    private static void goesOnByWhatIsThereThen() {
        Sendhouse house = Due.numberHouse(7, 0, 0, "s m1,0 w g1 k w j0");
        Due.tell(house, 0, 1, 0, 0, "n10 r");
        house.begin(0, 0, 0, 0, 0);
        house.go(1);
        CHECK.due("the first method", house.writtenValue(0), 10);
        CHECK.due("nothing in the global", house.writtenValue(1), 2);
        Due.tell(house, 1, 1, 0, 0, "n20 r");
        house.number(1, 50);
        house.go(2);
        CHECK.due("a nearer method", house.writtenValue(2), 20);
        CHECK.due("a number in the global", house.writtenValue(3), 1);
        house.remove(1, 1);
        house.make(1, house.add(0, 0));
        house.go(2);
        CHECK.due("the nearer one taken away", house.writtenValue(4), 10);
        CHECK.due("a thing of a new class in the global", house.writtenValue(5), 3);
        Due.tell(house, 0, 1, 1, 0, "n30 r");
        house.go(2);
        CHECK.due("told with an argument", Due.outcome(house), "xu");
        CHECK.due("no more was written", house.written(), 6);
    }

    /** "a frame goes on with its method as it was when it began" */
    private static void frameKeepsItsMethod() {
        Sendhouse house = Due.numberHouse(7, 2, 4, "j1 n1 y0 u r");
        house.begin(0, 0, 2, 5, 6);
        house.go(3);
        Due.tell(house, 1, 0, 0, 0, "u u u r");
        CHECK.due("its arguments", Due.slot(house, 0, 'a', 1), "n6");
        CHECK.due("its temporaries", Due.slot(house, 0, 't', 3), "u0");
        CHECK.due("its row", house.frame(0, 'r'), 2);
        CHECK.due("sound", house.isSound(), true);
        CHECK.due("goes on", house.go(3), 3);
        house.remove(1, 0);
        CHECK.due("also when taken away", house.go(3), 3);
        CHECK.due("its class", house.frame(0, 'c'), 1);
        CHECK.due("its selector", house.frame(0, 's'), 0);
        Due.tell(house, 1, 0, 0, 0, "n4 r");
        house.end();
        CHECK.due("the one told anew for the next", Due.ran(house, 0, 0), "n4");
        Due.tell(house, 0, 1, 0, 0, "n9 r");
        Due.tell(house, 1, 1, 0, 0, "j1 s j3 M1,0 r");
        house.begin(0, 1, 0, 0, 0);
        Due.tell(house, 1, 1, 0, 0, "n8 r");
        house.go(9);
        CHECK.due("above the class it was told for", Due.outcome(house), "n9");
    }

    /** "Each method counts how often it was called since it was told" */
    private static void countsSinceItWasTold() {
        Sendhouse house = Due.numberHouse(7, 0, 0, "s m1,0 p j0");
        Due.tell(house, 0, 1, 0, 0, "s r");
        CHECK.due("none", house.calls(0, 1), 0);
        house.begin(0, 0, 0, 0, 0);
        house.go(500);
        CHECK.due("each second step", house.calls(0, 1), 250);
        Due.tell(house, 0, 1, 0, 0, "s r");
        CHECK.due("told anew", house.calls(0, 1), 0);
        house.go(4);
        CHECK.due("since then", house.calls(0, 1), 2);
        CHECK.due("taken away", house.remove(0, 1), 2);
        Due.tell(house, 0, 1, 0, 0, "s r");
        CHECK.due("told again", house.remove(0, 1), 0);
    }

    /** "by a send that has no fault" */
    private static void countsNoFaultySend() {
        Sendhouse house = Due.numberHouse(7, 0, 0, "s s m1,1 r");
        Due.tell(house, 1, 1, 0, 0, "s r");
        Due.ran(house, 0, 0);
        CHECK.due("other arguments", house.calls(1, 1), 0);
        Due.tell(house, 1, 0, 0, 0, "s m0,0 r");
        Due.ran(house, 0, 0);
        CHECK.due("12 frames", house.calls(1, 0), 12);
        Due.tell(house, 1, 2, 0, 0, "u u + r");
        Due.ran(house, 0, 2);
        CHECK.due("a fault inside is none of the send", house.calls(1, 2), 1);
    }

    /** "or as a run begins" */
    private static void countsAsARunBegins() {
        Sendhouse house = Due.numberHouse(7, 0, 0, "s r");
        for (int calls = 1; calls <= 5; calls++) {
            house.begin(0, 0, 0, 0, 0);
            CHECK.due("begun", house.calls(1, 0), calls);
            CHECK.dueThrow("one stands", house, STATE, () -> house.begin(0, 0, 0, 0, 0));
            house.end();
            CHECK.dueThrow("none found", house, UNSUPPORTED, () -> house.begin(0, 0, 1, 0, 0));
            CHECK.due("a begin that throws is none", house.calls(1, 0), calls);
        }
    }

    /** "also if it is built in" */
    private static void countsAlsoIfBuiltIn() {
        Sendhouse house = Due.numberHouse(7, 0, 0, "s m1,0 p j0");
        Due.tell(house, 1, 1, 0, 0, "s M2,0 r");
        Due.tell(house, 0, 2, 0, 0, "s r");
        house.compile(1, 0);
        house.compile(1, 1);
        CHECK.due("all are compiled", house.compile(0, 2), 3);
        house.begin(0, 0, 0, 0, 0);
        for (int round = 1; round <= 40; round++) {
            CHECK.due("m", house.go(1), 1);
            CHECK.due("what m sends to", house.calls(1, 1), round);
            CHECK.due("not yet by M", house.calls(0, 2), round - 1);
            CHECK.due("two frames", house.frames(), 2);
            CHECK.due("M", house.go(1), 1);
            CHECK.due("what M sends to", house.calls(0, 2), round);
            CHECK.due("one frame", house.frames(), 1);
            CHECK.due("j", house.go(1), 1);
        }
        CHECK.due("as the run began", house.calls(1, 0), 1);
        house.go(500);
        CHECK.due("by many steps too", house.calls(1, 1), 40 + 167);
        CHECK.due("and further in", house.calls(0, 2), 40 + 167);
    }

    // ---- Part 6, compiling

    /** "A method is compiled when that is told" */
    private static void compiledWhenTold() {
        Sendhouse house = Due.numberHouse(7, 0, 0, "s r");
        CHECK.due("not before", house.isCompiled(1, 0), false);
        CHECK.due("one is", house.compile(1, 0), 1);
        CHECK.due("then it is", house.isCompiled(1, 0), true);
        CHECK.due("not called", house.calls(1, 0), 0);
        for (int cls = 0; cls < 3; cls++) {
            for (int selector = 0; selector < 16; selector++) {
                Due.tell(house, cls, selector, 0, 0, "s r");
            }
        }
        int many = 0;
        for (int cls = 0; cls < 3; cls++) {
            for (int selector = 0; selector < 16; selector++) {
                many++;
                CHECK.due("compiled", house.compile(cls, selector), many);
            }
        }
        CHECK.due("all of 48", house.compiledShare(), 1.0f);
    }

    /** "or as it is called for the n-th time" */
    private static void compiledAtTheNthCall() {
        for (int n : new int[] {1, 2, 98, 99}) {
            Sendhouse house = Due.numberHouse(7, 0, 0, "s m1,0 p j0");
            Due.tell(house, 0, 1, 0, 0, "s r");
            house.hot(n);
            house.begin(0, 0, 0, 0, 0);
            house.go(Math.max(1, 2 * (n - 1)));
            CHECK.due("ahead of call " + n, house.isCompiled(0, 1), n == 1);
            house.go(1);
            CHECK.due("at call " + n, house.isCompiled(0, 1), true);
            CHECK.due("that many calls", house.calls(0, 1), n);
            CHECK.due("as the run began", house.isCompiled(1, 0), n == 1);
        }
    }

    /** "or a later one" */
    private static void compiledAtALaterCall() {
        Sendhouse house = Due.numberHouse(7, 0, 0, "s m1,0 p j0");
        Due.tell(house, 0, 1, 0, 0, "s r");
        house.begin(0, 0, 0, 0, 0);
        house.go(10);
        CHECK.due("five calls", house.calls(0, 1), 5);
        house.hot(3);
        CHECK.due("not by telling hot", house.isCompiled(0, 1), false);
        house.go(1);
        CHECK.due("at the sixth call", house.isCompiled(0, 1), true);
        house.hot(0);
        CHECK.due("it stays", house.isCompiled(0, 1), true);
    }

    /** "if n is told and not 0" */
    private static void compiledAtNoneWith0() {
        Sendhouse house = Due.numberHouse(7, 0, 0, "s m1,0 p j0");
        Due.tell(house, 0, 1, 0, 0, "s r");
        house.begin(0, 0, 0, 0, 0);
        house.go(300);
        CHECK.due("not told", house.isCompiled(0, 1), false);
        CHECK.due("99", house.hot(99), 0);
        CHECK.due("0", house.hot(0), 99);
        house.go(300);
        CHECK.due("told 0", house.isCompiled(0, 1), false);
        CHECK.due("no share", house.compiledShare(), 0.0f);
    }

    /** "till it is told anew, or taken away" */
    private static void compiledTillToldAnewOrTakenAway() {
        Sendhouse house = Due.numberHouse(7, 0, 0, "s m1,0 p j0");
        Due.tell(house, 0, 1, 0, 0, "s r");
        house.hot(2);
        house.begin(0, 0, 0, 0, 0);
        house.go(4);
        CHECK.due("compiled", house.isCompiled(0, 1), true);
        Due.tell(house, 0, 1, 0, 0, "s r");
        CHECK.due("told anew", house.isCompiled(0, 1), false);
        house.go(2);
        CHECK.due("counted anew", house.isCompiled(0, 1), false);
        house.go(2);
        CHECK.due("compiled anew", house.isCompiled(0, 1), true);
        house.remove(0, 1);
        CHECK.dueThrow("taken away", house, NONE, () -> house.isCompiled(0, 1) ? 1 : 0);
        Due.tell(house, 0, 1, 0, 0, "s r");
        CHECK.due("told again", house.isCompiled(0, 1), false);
        house.compile(1, 0);
        Due.type(house, "p");
        CHECK.dueThrow("not well told", house, UNSUPPORTED, () -> house.method(1, 0, 0, 0));
        CHECK.due("so it stays compiled", house.isCompiled(1, 0), true);
    }

    /** "What is compiled leads to the same": two houses go on side by side, one with all methods compiled. */
    private static void leadsToTheSame() {
        Sendhouse plain = compilable();
        Sendhouse compiled = compilable();
        for (int selector = 0; selector < 4; selector++) {
            compiled.compile(0, selector);
        }
        for (int x = -2; x < 14; x++) {
            plain.begin(0, 0, 1, x, 0);
            compiled.begin(0, 0, 1, x, 0);
            for (int i = 0; i < 60 && plain.state() == 's'; i++) {
                CHECK.due("steps", compiled.go(1), plain.go(1));
                CHECK.due("all of it", Due.look(compiled).replace("true", "false"), Due.look(plain));
            }
            CHECK.due("outcome", Due.outcome(compiled), Due.outcome(plain));
            compiled.compile(0, 3);
            if (plain.frames() > 0) {
                CHECK.due("ended", compiled.end(), plain.end());
            }
        }
    }

    /** "comes back to rows at any step": what is told while compiled methods stand is there as they go on. */
    private static void comesBackToRowsAtAnyStep() {
        for (int compiled = 0; compiled < 2; compiled++) {
            Sendhouse house = Due.numberHouse(7, 0, 0, "s m1,0 w j0");
            Due.tell(house, 0, 1, 0, 0, "s m2,0 r");
            Due.tell(house, 0, 2, 0, 0, "n5 r");
            house.hot(compiled);
            house.begin(0, 0, 0, 0, 0);
            house.go(4);
            CHECK.due("it stands inside", house.frames(), 2);
            CHECK.due("ahead of a send", house.frame(1, 'r'), 1);
            Due.tell(house, 0, 1, 0, 0, "n6 r");
            Due.tell(house, 0, 2, 0, 0, "n7 r");
            dueWrites(house, "its rows as they were, what it sends to as it is", 1, 7);
            dueWrites(house, "told anew", 2, 6);
            Due.tell(house, 1, 1, 0, 0, "n8 r");
            dueWrites(house, "a nearer one", 2, 8);
            house.remove(1, 1);
            dueWrites(house, "taken away", 2, 6);
            Due.tell(house, 1, 0, 0, 0, "u r");
            dueWrites(house, "the sending one told anew", 2, 6);
            house.remove(1, 0);
            dueWrites(house, "and taken away", 2, 6);
            house.remove(0, 1);
            house.go(500);
            CHECK.due("none is there", Due.outcome(house), "xu");
            CHECK.due("steps", house.steps(), 4 + 1 + 5 * 2 + 2);
        }
    }

    private static void dueWrites(Sendhouse house, String what, int steps, int number) {
        CHECK.due(what + ": steps", house.go(steps), steps);
        CHECK.due(what + ": written", house.writtenValue(house.written() - 1), number);
    }

    /** "What is compiled leads to the same": so do its faults, with all frames as they were ahead of the row. */
    private static void faultsInWhatIsCompiled() {
        String[] inner = {"u n1 n0 / r", "u n1 + r", "u f0 r", "n3 F0 u r", "u y0 u r", "u u m9,1 r", "s m2,0 r", "u c0 r"};
        for (String rows : inner) {
            Sendhouse plain = faulty(rows);
            Sendhouse compiled = faulty(rows);
            compiled.hot(1);
            CHECK.due(rows, Due.ran(compiled, 0, 0), Due.ran(plain, 0, 0));
            CHECK.due("a fault of " + rows, plain.state(), 'x');
            CHECK.due("all of " + rows, Due.look(compiled).replace("true", "false"), Due.look(plain));
            CHECK.due("ended: " + rows, compiled.end(), plain.end());
        }
    }

    /** 60 things; the class 3 has a field, and its method 2, to which one comes by 'M' with another receiver, has a fault. */
    private static Sendhouse faulty(String rows) {
        Sendhouse house = new Sendhouse();
        house.add(0, 1);
        house.add(3, 0);
        house.make(0, 4);
        for (int i = 1; i < 60; i++) {
            house.make(1, 0);
        }
        house.nothing(2);
        Due.tell(house, 4, 0, 0, 1, "n4 T0 n9 s m1,0 r");
        Due.tell(house, 4, 1, 0, 0, "n8 g2 M2,0 r");
        Due.tell(house, 3, 2, 0, 0, rows);
        Due.tell(house, 2, 2, 0, 0, "s m2,0 r");
        return house;
    }

    private static Sendhouse compilable() {
        Sendhouse house = new Sendhouse();
        house.make(0, 0);
        Due.tell(house, 0, 0, 1, 1, "s a0 m1,1 w s m3,0 p n12 a0 / n3 - y0 s a0 m2,1 r");
        Due.tell(house, 0, 1, 1, 1, "a0 T0 t0 w s m3,0 p t0 n3 < y13 u r t0 r");
        Due.tell(house, 0, 2, 1, 0, "a0 y4 s r s a0 n1 - m2,1 r");
        Due.tell(house, 0, 3, 0, 0, "c0 k r");
        return house;
    }

    // ---- Part 7, collecting

    /** "A thing is reached if a global .. has it" */
    private static void reachedByAGlobal() {
        Sendhouse house = new Sendhouse();
        for (int global = 0; global < 8; global++) {
            house.make(global, 0);
        }
        CHECK.due("all are reached", house.collect(), 0);
        for (int global = 0; global < 8; global++) {
            if (global % 2 == 0) {
                house.nothing(global);
            } else {
                house.number(global, global);
            }
            CHECK.due("one is gone", house.collect(), 1);
            CHECK.due("the others stay", house.things(), 7 - global);
        }
    }

    /** "a frame of the run .. its receiver, arguments, temporaries and pile" */
    private static void reachedByEachPlaceOfAFrame() {
        for (String rows : new String[] {"c0 m1,0 r", "u c0 u m1,2 r", "u u c0 m1,2 r"}) {
            Sendhouse house = Due.numberHouse(7, 0, 0, rows);
            Due.tell(house, 2, 1, 2, 0, "j0");
            Due.tell(house, 0, 1, 0, 0, "j0");
            dueReachesOne(house, rows);
        }
        for (int i = 0; i < 4; i++) {
            dueReachesOne(Due.numberHouse(7, 0, 4, "c0 T" + i + " j2"), "temporary " + i);
        }
        for (int i = 0; i < 8; i++) {
            String rows = "u ".repeat(i) + "c0 " + "u ".repeat(7 - i) + "j8";
            dueReachesOne(Due.numberHouse(7, 0, 0, rows), "place " + i + " of the pile");
        }
        dueReachesOne(Due.numberHouse(7, 0, 0, "c0 u m1,0 r"), "a pile that waits", true);
    }

    private static void dueReachesOne(Sendhouse house, String what) {
        dueReachesOne(house, what, false);
    }

    private static void dueReachesOne(Sendhouse house, String what, boolean waits) {
        if (waits) {
            Due.tell(house, 2, 1, 0, 0, "j0");
        }
        house.make(6, 0);
        house.nothing(6);
        house.begin(0, 0, 0, 0, 0);
        house.go(1);
        CHECK.due(what + ": stands", house.state(), 's');
        CHECK.due(what + ": another one is gone", house.collect(), 1);
        CHECK.due(what + ": it is reached", house.classOf(1), 0);
        CHECK.due(what + ": sound", house.isSound(), true);
        house.end();
        CHECK.due(what + ": gone when ended", house.collect(), 1);
    }

    /** "a frame of the run": the first, those between, and the last of 12. */
    private static void reachedByEachOfTwelveFrames() {
        Sendhouse house = Due.numberHouse(7, 1, 1, "c0 T0 a0 y5 j4 s a0 n1 - m0,1 r");
        house.begin(0, 0, 1, 11, 0);
        house.go(12);
        CHECK.due("12 frames", house.frames(), 12);
        CHECK.due("each with a thing", house.things(), 12);
        house.make(1, 0);
        house.nothing(1);
        CHECK.due("each is reached", house.collect(), 1);
        house.end();
        CHECK.due("by none then", house.collect(), 12);
    }

    /** "also of one that has a fault" */
    private static void reachedByAFaultsFrames() {
        Sendhouse house = Due.numberHouse(7, 0, 1, "c0 T0 c0 u c0 m1,1 r");
        Due.tell(house, 2, 1, 1, 0, "u G7 c0 p n0 n0 / r");
        CHECK.due("a fault", Due.ran(house, 0, 0), "xz");
        CHECK.due("temporary, pile, argument", house.collect(), 1);
        CHECK.due("three are reached", house.things(), 3);
        CHECK.due("sound", house.isSound(), true);
        house.end();
        CHECK.due("ended", house.collect(), 3);
    }

    /** "or the answer, till a run begins anew" */
    private static void reachedByTheAnswer() {
        Sendhouse house = Due.numberHouse(7, 0, 0, "c0 r");
        Due.tell(house, 1, 1, 0, 0, "j0");
        CHECK.due("the answer", Due.ran(house, 0, 0), "o0");
        CHECK.due("is reached", house.collect(), 0);
        CHECK.dueThrow("a begin that throws", house, UNSUPPORTED, () -> house.begin(0, 2, 0, 0, 0));
        CHECK.due("is reached still", house.collect(), 0);
        house.begin(0, 1, 0, 0, 0);
        CHECK.due("gone when a run began anew", house.collect(), 1);
        house.end();
        CHECK.due("another answer", Due.ran(house, 0, 0), "o1");
        house.begin(0, 1, 0, 0, 0);
        house.end();
        CHECK.due("an ended run has none", house.collect(), 1);
    }

    /** "or a field of a thing that is reached" */
    private static void reachedByAField() {
        Sendhouse house = new Sendhouse();
        house.add(0, 4);
        house.add(3, 4);
        for (int field = 0; field < 8; field++) {
            Due.tell(house, 4, field, 0, 0, "c4 F" + field + " f" + field + " r");
        }
        house.make(0, 4);
        for (int field = 0; field < 8; field++) {
            Due.ran(house, 0, field);
        }
        Due.tell(house, 2, 0, 0, 0, "u r");
        Due.ran(house, 7, 0);
        CHECK.due("by each of 8 fields", house.collect(), 0);
        CHECK.due("nine", house.things(), 9);
        Due.tell(house, 4, 9, 0, 0, "s f0 F1 f2 m10,0 r");
        Due.tell(house, 4, 10, 0, 0, "g0 F7 s r");
        Due.ran(house, 0, 9);
        house.nothing(0);
        CHECK.due("by the answer's fields", house.collect(), 1);
        CHECK.due("a ring behind it", house.things(), 8);
        Due.ran(house, 7, 0);
        CHECK.due("a ring that nothing reaches", house.collect(), 8);
    }

    /** As many as can be, each but the last reached by a field alone, by the first collecting and by later ones. */
    private static void reachedByAChainOf60() {
        Sendhouse house = new Sendhouse();
        house.add(0, 1);
        Due.tell(house, 3, 0, 0, 0, "g1 F0 s G1 u r");
        for (int i = 0; i < 60; i++) {
            house.make(0, 3);
            Due.ran(house, 0, 0);
        }
        house.nothing(0);
        for (int i = 0; i < 3; i++) {
            CHECK.due("all are reached", house.collect(), 0);
        }
        CHECK.due("60", house.things(), 60);
        house.number(1, 59);
        CHECK.due("none is reached by a number", house.collect(), 60);
    }

    /** "What was written reaches nothing" */
    private static void writtenReachesNothing() {
        Sendhouse house = Due.numberHouse(7, 0, 0, "c0 w c0 w n1 r");
        Due.ran(house, 0, 0);
        CHECK.due("two are gone", house.collect(), 2);
        CHECK.due("what was written stays", house.written(), 2);
        CHECK.due("its kind", house.writtenKind(1), 'o');
        CHECK.due("its number", house.writtenValue(1), 1);
        CHECK.dueThrow("not there any more", house, OUT, () -> house.classOf(house.writtenValue(1)));
        CHECK.due("sound", house.isSound(), true);
    }

    /** "By collecting all others are gone" */
    private static void allOthersAreGone() {
        Sendhouse house = new Sendhouse();
        CHECK.due("none of none", house.collect(), 0);
        for (int i = 0; i < 60; i++) {
            house.make(i % 7, 0);
        }
        CHECK.due("53 of 60", house.collect(), 53);
        CHECK.due("none once more", house.collect(), 0);
        for (int i = 0; i < 60; i++) {
            int thing = i;
            String want = i < 53 ? "IndexOutOfBoundsException" : "0";
            CHECK.due("thing " + i, Due.answerOf(house, it -> it.classOf(thing)), want);
        }
        CHECK.due("things", house.things(), 7);
    }
}
