/** The edges of "Terms" 1 and of the STEPS of "Terms" 2: numbers, the STACK, CELLS, FRAMES, OUTPUT and INPUT. */
public final class EdgesOfCodesTest {
    private static final Due due = new Due("EdgesOfCodesTest");

    private static final int MIN = Integer.MIN_VALUE;
    private static final int MAX = Integer.MAX_VALUE;

    /** How many numbers each code needs, and how many more there are behind it. */
    private static final int[] NEEDS = {0, 1, 1, 2, 2, 2, 2, 2, 2, 2, 2, 1, 0, 1, 1, 2, 0, 1, 0, 0, 0, 1, 0};
    private static final int[] MORE = {1, -1, 1, 0, 1, -1, -1, -1, -1, -1, -1, 0, 1, -1, 0, -2, 0, -1, 0, 0, 1, -1, 0};

    public static void main(String[] args) {
        numbersWrapAround();
        comparisons();
        notAndIfNot();
        anyNumberIsPushed();
        asManyAsNeeded();
        upToAFullStack();
        beyondAFullStack();
        framesUpToEight();
        outputUpToThirty();
        cellsFromZeroToEleven();
        cellsAreZeroAtFirst();
        inputUpToItsEnd();
        givenLaterComesNext();
        stepsThatAreNotThere();
        eightyStepsAreDone();
        ranksOfFails();
        failsChangeNothing();
        haltStays();
        due.end();
    }

    /** "All numbers are whole, 32 bits, and wrap around", "8 PER a / b, cut towards 0". */
    private static void numbersWrapAround() {
        int[][] cases = {
            {Programs.ADD, MAX, 0, MAX}, {Programs.ADD, MAX, 1, MIN}, {Programs.ADD, MIN, -1, MAX},
            {Programs.ADD, MIN, MIN, 0}, {Programs.ADD, MAX, MAX, -2},
            {Programs.LESS, MIN, 0, MIN}, {Programs.LESS, MIN, 1, MAX}, {Programs.LESS, MAX, -1, MIN},
            {Programs.LESS, 0, MIN, MIN}, {Programs.LESS, MIN, MAX, 1},
            {Programs.TIMES, MAX, 1, MAX}, {Programs.TIMES, MAX, 2, -2}, {Programs.TIMES, MIN, -1, MIN},
            {Programs.TIMES, MIN, MIN, 0}, {Programs.TIMES, MAX, MAX, 1}, {Programs.TIMES, 65536, 32768, MIN},
            {Programs.TIMES, 46341, 46341, -2147479015}, {Programs.TIMES, 46340, 46340, 2147395600},
            {Programs.PER, MIN, -1, MIN}, {Programs.PER, MIN, 1, MIN}, {Programs.PER, MAX, -1, -MAX},
            {Programs.PER, MIN, MIN, 1}, {Programs.PER, MIN, MAX, -1}, {Programs.PER, MAX, MIN, 0},
            {Programs.PER, 0, -5, 0}, {Programs.PER, 1, 2, 0}, {Programs.PER, -1, 2, 0}, {Programs.PER, 7, -2, -3},
            {Programs.PER, -7, -2, 3}, {Programs.PER, -7, 2, -3}, {Programs.PER, 6, 2, 3}};
        for (int[] it : cases) {
            String what = "code " + it[0] + " of " + it[1] + " and " + it[2];
            due.is(what, ofTwo(it[1], it[2], it[0]), it[3]);
        }
    }

    /** "9 IS BELOW (1 if a is less than b, otherwise 0), 10 IS SAME (1 or 0 likewise)". */
    private static void comparisons() {
        int[] numbers = {MIN, MIN + 1, -1, 0, 1, MAX - 1, MAX};
        for (int a : numbers) {
            for (int b : numbers) {
                due.is(a + " IS BELOW " + b, ofTwo(a, b, Programs.IS_BELOW), (long) a < (long) b ? 1 : 0);
                due.is(a + " IS SAME " + b, ofTwo(a, b, Programs.IS_SAME), (long) a == (long) b ? 1 : 0);
            }
        }
    }

    private static int ofTwo(int a, int b, int code) {
        Lantern lantern = Programs.of(Programs.PUSH, a, Programs.PUSH, b, code, 0);
        due.is(code + " is done", lantern.run(3), 3);
        due.is(code + " takes both", lantern.told(Programs.ON_STACK), 1);
        return lantern.stack(0);
    }

    /** "11 NOT (1 if what is on top is 0, otherwise 0)", "17 IF NOT n: if what is on top is 0, go to n". */
    private static void notAndIfNot() {
        for (int number : new int[] {MIN, -1, 0, 1, 2, MAX}) {
            Lantern not = Programs.of(Programs.PUSH, number, Programs.NOT, 0);
            not.run(2);
            due.is("NOT " + number, not.stack(0), number == 0 ? 1 : 0);
            due.is("NOT in its place", not.told(Programs.ON_STACK), 1);
            Lantern ifNot = Programs.of(Programs.PUSH, number, Programs.IF_NOT, 80);
            ifNot.run(2);
            due.is("IF NOT of " + number, ifNot.told(Programs.AT), number == 0 ? 80 : 2);
            due.is("IF NOT takes " + number, ifNot.told(Programs.ON_STACK), 0);
        }
    }

    /** "any number with 0". */
    private static void anyNumberIsPushed() {
        for (int number : new int[] {MIN, MIN + 1, -1, 0, 1, MAX}) {
            Lantern lantern = Programs.of(Programs.PUSH, number, Programs.TWICE, 0, Programs.STORE, 11,
                Programs.WRITE, 0, Programs.READ, 0);
            lantern.give(number);
            lantern.run(5);
            due.is("CELL 11 holds " + number, lantern.cell(11), number);
            due.is("the OUTPUT holds " + number, lantern.output(0), number);
            due.is("READ " + number, lantern.stack(0), number);
        }
    }

    private static int numberFor(int code) {
        return code >= Programs.LOAD && code <= Programs.CALL ? 4 : 0;
    }

    /** "2 it needs more on the STACK, or a FRAME, than there is". */
    private static void asManyAsNeeded() {
        for (int code = 0; code <= 22; code++) {
            for (int there = 0; there <= 2; there++) {
                if (code == Programs.RETURN) {
                    continue;
                }
                String what = "code " + code + " with " + there;
                Lantern lantern = Programs.pushing(there, 3, code, numberFor(code));
                boolean isDone = there >= NEEDS[code];
                due.is(what, lantern.run(there + 1), isDone ? there + 1 : there);
                due.is(what + ": status", lantern.told(Programs.STATUS), isDone ? code == 22 ? 1 : 0 : 2);
                due.is(what + ": then", lantern.told(Programs.ON_STACK), isDone ? there + MORE[code] : there);
            }
        }
        Lantern framed = Programs.of(Programs.CALL, 1, Programs.RETURN, 0);
        due.is("RETURN with a FRAME, then without", framed.run(9), 2);
        due.is("RETURN without a FRAME", framed.told(Programs.STATUS), 2);
        due.is("RETURN without a FRAME, at", framed.told(Programs.AT), 1);
    }

    /** "a STACK of at most 24 numbers": the 24th one is taken, and a full STACK does what does not grow it. */
    private static void upToAFullStack() {
        for (int code = 0; code <= 22; code++) {
            int there = MORE[code] > 0 ? 23 : 24;
            Lantern lantern = new Lantern();
            lantern.step(Programs.CALL, 1);
            for (int i = 0; i < there; i++) {
                lantern.step(Programs.PUSH, 3);
            }
            lantern.step(code, numberFor(code));
            lantern.give(6);
            lantern.run(there + 1);
            due.is("code " + code + " on top of " + there, lantern.run(1), 1);
            due.is("so many behind " + code, lantern.told(Programs.ON_STACK), there + MORE[code]);
            due.is("none failed by " + code, lantern.told(Programs.STATUS), code == Programs.HALT ? 1 : 0);
        }
        Lantern full = new Lantern();
        for (int i = 1; i <= 24; i++) {
            full.step(Programs.PUSH, i);
        }
        full.run(24);
        for (int place = 0; place < 24; place++) {
            due.is("17: a full STACK, place " + place, full.stack(place), 24 - place);
        }
    }

    /** "3 the STACK would be too many": the 25th one is not taken. */
    private static void beyondAFullStack() {
        for (int code : new int[] {Programs.PUSH, Programs.TWICE, Programs.OVER, Programs.LOAD, Programs.READ}) {
            Lantern lantern = Programs.pushing(24, 3, code, 0);
            lantern.give(6);
            lantern.run(24);
            long[] before = Programs.shown(lantern);
            due.is("code " + code + " on top of 24", lantern.run(1), 0);
            due.is("it fails", lantern.told(Programs.STATUS), 3);
            before[Programs.STATUS] = 3;
            due.areSame("nothing else changes", Programs.shown(lantern), before);
        }
    }

    /** "at most 8 FRAMES": the eighth one is opened, the ninth one is not, and the eighth one is opened again. */
    private static void framesUpToEight() {
        Lantern lantern = new Lantern();
        for (int i = 1; i <= 8; i++) {
            lantern.step(Programs.CALL, i);
        }
        lantern.step(Programs.RETURN, 0);
        due.is("eight CALLS", lantern.run(8), 8);
        due.is("eight FRAMES", lantern.told(Programs.FRAMES), 8);
        for (int place = 0; place < 8; place++) {
            due.is("19: eight FRAMES, place " + place, lantern.frame(place), 8 - place);
        }
        // The latest way back is to the RETURN itself.
        due.is("the FRAME opened last is closed", lantern.run(1), 1);
        due.is("one goes its way back", lantern.told(Programs.AT), 8);
        lantern.rewrite(8, Programs.CALL, 20);
        due.is("an eighth one again", lantern.run(1), 1);
        due.is("its way back", lantern.frame(0), 9);
        due.is("the one below", lantern.frame(1), 7);
        Lantern ninth = Programs.of(Programs.CALL, 0);
        due.is("eight of nine CALLS", ninth.run(9), 8);
        due.is("the ninth one fails", ninth.told(Programs.STATUS), 3);
        due.is("it opens no FRAME", ninth.told(Programs.FRAMES), 8);
        due.is("it stays where it is", ninth.told(Programs.AT), 0);
    }

    /** "the OUTPUT, at most 30 numbers": the 30th one is written, the 31st one is not. */
    private static void outputUpToThirty() {
        Lantern lantern = new Lantern();
        for (int i = 1; i <= 31; i++) {
            lantern.step(Programs.PUSH, i);
            lantern.step(Programs.WRITE, 0);
        }
        due.is("29 are written", lantern.run(58), 58);
        due.is("29 in the OUTPUT", lantern.told(Programs.IN_OUTPUT), 29);
        due.is("the 30th one is written", lantern.run(2), 2);
        due.is("30 in the OUTPUT", lantern.told(Programs.IN_OUTPUT), 30);
        for (int place = 0; place < 30; place++) {
            due.is("20: a full OUTPUT, place " + place, lantern.output(place), place + 1);
        }
        due.is("a full OUTPUT does no harm by itself", lantern.run(1), 1);
        due.is("the 31st one is not written", lantern.run(1), 0);
        due.is("it fails", lantern.told(Programs.STATUS), 3);
        due.is("30 still", lantern.told(Programs.IN_OUTPUT), 30);
        due.is("what was to be written is on the STACK", lantern.stack(0), 31);
    }

    /** "CELLS 0 to 11", "5 there is no such CELL". */
    private static void cellsFromZeroToEleven() {
        for (int cell : new int[] {MIN, -2, -1, 0, 1, 10, 11, 12, 13, MAX}) {
            boolean isThere = cell >= 0 && cell <= 11;
            Lantern stores = Programs.of(Programs.PUSH, 77, Programs.PUSH, cell, Programs.STORE_AT, 0);
            due.is("STORE AT " + cell, stores.run(3), isThere ? 3 : 2);
            due.is("STORE AT " + cell + ": status", stores.told(Programs.STATUS), isThere ? 0 : 5);
            due.is("STORE AT " + cell + ": the STACK", stores.told(Programs.ON_STACK), isThere ? 0 : 2);
            for (int other = 0; other < 12; other++) {
                due.is("STORE AT " + cell + ": CELL " + other, stores.cell(other), other == cell ? 77 : 0);
            }
            Lantern loads = Programs.of(Programs.PUSH, 55, Programs.STORE, isThere ? cell : 3,
                Programs.PUSH, cell, Programs.LOAD_AT, 0);
            due.is("LOAD AT " + cell, loads.run(4), isThere ? 4 : 3);
            due.is("LOAD AT " + cell + ": status", loads.told(Programs.STATUS), isThere ? 0 : 5);
            due.is("LOAD AT " + cell + ": on top", loads.stack(0), isThere ? 55 : cell);
            due.is("LOAD AT " + cell + ": the STACK", loads.told(Programs.ON_STACK), 1);
        }
        for (int cell = 0; cell < 12; cell++) {
            Lantern lantern = Programs.of(Programs.PUSH, 9, Programs.STORE, cell, Programs.LOAD, cell);
            lantern.run(3);
            due.is("STORE into CELL " + cell, lantern.cell(cell), 9);
            due.is("LOAD the CELL " + cell, lantern.stack(0), 9);
        }
    }

    /** "CELLS 0 to 11 (0 at first)". */
    private static void cellsAreZeroAtFirst() {
        Lantern lantern = new Lantern();
        for (int cell = 0; cell < 12; cell++) {
            due.is("18: CELL " + cell + " at first", lantern.cell(cell), 0);
        }
        lantern.step(Programs.PUSH, 11);
        lantern.step(Programs.LOAD_AT, 0);
        lantern.run(2);
        due.is("LOAD AT a CELL at first", lantern.stack(0), 0);
    }

    /** "20 READ the next one of the INPUT, or 0, if there is none any more", "at most 20 numbers". */
    private static void inputUpToItsEnd() {
        Lantern lantern = Programs.of(Programs.READ, 0, Programs.STORE, 0, Programs.GO, 0);
        for (int i = 1; i <= 20; i++) {
            due.is("4: so many then", lantern.give(i == 20 ? MIN : i * 3), i);
        }
        for (int i = 1; i <= 19; i++) {
            lantern.run(3);
            due.is("READ number " + i, lantern.cell(0), i * 3);
        }
        due.is("19 were READ", lantern.told(Programs.WAS_READ), 19);
        lantern.run(3);
        due.is("the 20th one", lantern.cell(0), MIN);
        due.is("20 were READ", lantern.told(Programs.WAS_READ), 20);
        lantern.run(3);
        due.is("0, as there is none any more", lantern.cell(0), 0);
        due.is("that counts as none READ", lantern.told(Programs.WAS_READ), 20);
    }

    /** "(that counts as none READ: what is given later comes next)". */
    private static void givenLaterComesNext() {
        Lantern lantern = Programs.of(Programs.READ, 0, Programs.GO, 0);
        lantern.run(4);
        due.is("none READ without an INPUT", lantern.told(Programs.WAS_READ), 0);
        lantern.give(8);
        lantern.run(1);
        due.is("given later", lantern.stack(0), 8);
        due.is("the 0 ahead of it", lantern.stack(1), 0);
        due.is("one READ", lantern.told(Programs.WAS_READ), 1);
        lantern.back(1);
        due.is("none READ, when it is back", lantern.told(Programs.WAS_READ), 0);
        lantern.run(1);
        due.is("READ again", lantern.stack(0), 8);
    }

    /** "6 there is no such STEP", "a STEP, that need not be there". */
    private static void stepsThatAreNotThere() {
        Lantern none = new Lantern();
        due.is("no STEP 0", none.run(1), 0);
        due.is("no STEP 0: it fails", none.told(Programs.STATUS), 6);
        for (int code : new int[] {Programs.GO, Programs.CALL}) {
            for (int to : new int[] {1, 79, 80}) {
                Lantern lantern = Programs.of(code, to);
                due.is(code + " to " + to + " is done", lantern.run(1), 1);
                due.is(code + " to " + to + ": at", lantern.told(Programs.AT), to);
                due.is(code + " to " + to + ": READY", lantern.told(Programs.STATUS), 0);
                due.is(code + " to " + to + ": no more", lantern.run(1), 0);
                due.is(code + " to " + to + ": it fails", lantern.told(Programs.STATUS), 6);
                due.is(code + " to " + to + ": at it still", lantern.told(Programs.AT), to);
            }
        }
        Lantern grows = Programs.of(Programs.GO, 1);
        grows.run(1);
        due.is("a STEP that comes later", grows.step(Programs.HALT, 0), 1);
        due.is("it is done", grows.run(9), 1);
        due.is("with it", grows.told(Programs.STATUS), 1);
    }

    /** "At most 80 STEPS, numbered from 0": the last one is done, and there is none behind it. */
    private static void eightyStepsAreDone() {
        Lantern lantern = new Lantern();
        for (int i = 0; i < 79; i++) {
            due.is("2: its number", lantern.step(Programs.GO, i + 1), i);
        }
        due.is("2: the last number", lantern.step(Programs.CALL, 80), 79);
        due.is("all are done", lantern.run(500), 80);
        due.is("at 80", lantern.told(Programs.AT), 80);
        due.is("where no STEP is", lantern.told(Programs.STATUS), 6);
        due.is("19: the last way back", lantern.frame(0), 80);
        due.is("21: the last STEP", lantern.ofStep(79, 2), 1);
        lantern.rewrite(79, Programs.HALT, 0);
        lantern.restart();
        due.is("the last STEP may be HALT", lantern.run(500), 80);
        due.is("it is at that STEP still", lantern.told(Programs.AT), 79);
        lantern.rewrite(79, Programs.CALL, 78);
        lantern.rewrite(78, Programs.RETURN, 0);
        lantern.rewrite(0, Programs.GO, 79);
        lantern.restart();
        due.is("back to 80", lantern.run(500), 3);
        due.is("at its way back", lantern.told(Programs.AT), 80);
        due.is("where no STEP is, too", lantern.told(Programs.STATUS), 6);
    }

    private static void failsWith(String what, Lantern lantern, int code) {
        lantern.run(500);
        due.is(what, lantern.told(Programs.STATUS), code);
    }

    /** "(2 comes ahead of 4 and 5, 3 behind all.)". */
    private static void ranksOfFails() {
        failsWith("2 ahead of 4", Programs.of(Programs.PUSH, 0, Programs.PER, 0), 2);
        failsWith("2 ahead of 5", Programs.of(Programs.PUSH, 12, Programs.STORE_AT, 0), 2);
        failsWith("2 ahead of 5, below 0", Programs.of(Programs.PUSH, -1, Programs.STORE_AT, 0), 2);
        failsWith("4 with a second", Programs.of(Programs.PUSH, 0, Programs.PUSH, 0, Programs.PER, 0), 4);
        Lantern full = new Lantern();
        for (int i = 0; i < 30; i++) {
            full.step(Programs.PUSH, 1);
            full.step(Programs.WRITE, 0);
        }
        full.step(Programs.WRITE, 0);
        failsWith("2 ahead of 3", full, 2);
        failsWith("4 on a full STACK", Programs.pushing(24, 0, Programs.PER, 0), 4);
        failsWith("5 on a full STACK, LOAD AT", Programs.pushing(24, 12, Programs.LOAD_AT, 0), 5);
        failsWith("5 on a full STACK, STORE AT", Programs.pushing(24, -1, Programs.STORE_AT, 0), 5);
        failsWith("6 with a full STACK", Programs.pushing(24, 0), 6);
        failsWith("2 with a full STACK", Programs.pushing(24, 0, Programs.RETURN, 0), 2);
    }

    /** "A STEP with which it FAILS is not done: nothing else changes by it." */
    private static void failsChangeNothing() {
        staysAsItWas("2, of two", 1, 2, Programs.pushing(1, 7, Programs.ADD, 0));
        staysAsItWas("2, of a FRAME", 1, 2, Programs.pushing(1, 7, Programs.RETURN, 0));
        staysAsItWas("3, of FRAMES", 8, 3, Programs.of(Programs.CALL, 0));
        staysAsItWas("4", 2, 4, Programs.of(Programs.PUSH, 9, Programs.PUSH, 0, Programs.PER, 0));
        staysAsItWas("5, LOAD AT", 2, 5, Programs.of(Programs.PUSH, 9, Programs.PUSH, 12, Programs.LOAD_AT, 0));
        staysAsItWas("5, STORE AT", 2, 5, Programs.of(Programs.PUSH, 9, Programs.PUSH, -1, Programs.STORE_AT, 0));
        staysAsItWas("6", 4, 6, Programs.of(Programs.PUSH, 9, Programs.STORE, 2, Programs.PUSH, 4, Programs.CALL, 80));
        staysAsItWas("3, of the OUTPUT", 91, 3, Programs.of(Programs.PUSH, 1, Programs.WRITE, 0, Programs.GO, 0));
    }

    private static void staysAsItWas(String what, int steps, int code, Lantern lantern) {
        due.is(what + ": ahead of it", lantern.run(steps), steps);
        long[] before = Programs.shown(lantern);
        int at = lantern.told(Programs.AT);
        int times = timesOf(lantern, at);
        due.is(what + ": READY", before[Programs.STATUS], 0);
        due.is(what + ": none is done", lantern.run(1), 0);
        due.stopped(what, lantern, 2, -1);
        before[Programs.STATUS] = code;
        due.areSame(what, Programs.shown(lantern), before);
        due.is(what + ": how often it was done", timesOf(lantern, at), times);
        due.is(what + ": none is done again", lantern.run(500), 0);
        due.areSame(what + ", again", Programs.shown(lantern), before);
    }

    private static int timesOf(Lantern lantern, int step) {
        try {
            return lantern.ofStep(step, 2);
        } catch (IndexOutOfBoundsException none) {
            return -1;
        }
    }

    /** "With HALT it is at that STEP still, and that is one done." */
    private static void haltStays() {
        Lantern lantern = Programs.of(Programs.PUSH, 6, Programs.HALT, 0);
        due.is("HALT is one done", lantern.run(500), 2);
        int[] told = {1, 1, 2, 1, 0, 0, 0, 2, 1, -1};
        for (int what = 0; what < told.length; what++) {
            due.is("HALTED, told " + what, lantern.told(what), told[what]);
        }
        due.is("HALT was done once", lantern.ofStep(1, 2), 1);
        due.is("HALT is not done again", lantern.run(500), 0);
        due.is("once still", lantern.ofStep(1, 2), 1);
        due.is("CLOCK still", lantern.told(Programs.CLOCK), 2);
        Lantern first = Programs.of(Programs.HALT, 0);
        due.is("HALT alone", first.run(1), 1);
        due.is("at the first STEP", first.told(Programs.AT), 0);
    }
}
