/** Promises 1 to 5, and each code of a STEP. */
public final class ProgramTest {
    private static final Due due = new Due("ProgramTest");

    public static void main(String[] args) {
        newObject();
        steps();
        stepsRefused();
        rewriting();
        rewritingRefused();
        giving();
        restarting();
        reckoning();
        shuffling();
        cells();
        going();
        readingAndWriting();
        failing();
        ranksOfFailures();
        due.end();
    }

    private static void newObject() {
        Lantern lantern = new Lantern();
        for (int what = 0; what <= 8; what++) {
            due.is("1: told " + what + " at first", lantern.told(what), 0);
        }
        due.is("1: cause at first", lantern.told(Programs.CAUSE), -1);
        due.is("1: cell 0 at first", lantern.cell(0), 0);
        due.is("1: cell 11 at first", lantern.cell(11), 0);
        due.is("1: no watches at first", lantern.unwatch(), 0);
        due.is("1: no steps at first", lantern.restart(), 0);
        due.is("1: no input at first", lantern.give(3), 1);
        due.refused("1: no step 0", lantern, Programs.INDEX, () -> lantern.ofStep(0, 0));
        due.refused("1: no point 0", lantern, Programs.INDEX, () -> lantern.ofPoint(0, 0));
        due.refused("1: no record 0", lantern, Programs.STATE, () -> lantern.replay(0));
    }

    private static void steps() {
        Lantern lantern = new Lantern();
        due.is("2: first step", lantern.step(Programs.PUSH, Integer.MIN_VALUE), 0);
        due.is("2: n of PUSH", lantern.ofStep(0, 1), Integer.MIN_VALUE);
        due.is("2: n not looked at", lantern.step(Programs.ADD, 999), 1);
        due.is("2: LOAD 11", lantern.step(Programs.LOAD, 11), 2);
        due.is("2: STORE 0", lantern.step(Programs.STORE, 0), 3);
        due.is("2: GO 80", lantern.step(Programs.GO, 80), 4);
        due.is("2: IF NOT 80", lantern.step(Programs.IF_NOT, 80), 5);
        due.is("2: CALL 0", lantern.step(Programs.CALL, 0), 6);
        due.is("2: HALT -5", lantern.step(Programs.HALT, -5), 7);
        for (int i = 8; i < 80; i++) {
            due.is("2: step " + i, lantern.step(Programs.TWICE, -1), i);
        }
        due.refused("2: step 80", lantern, Programs.STATE, () -> lantern.step(Programs.POP, 0));
        due.refused("2: code ahead of fullness", lantern, Programs.ARGUMENT, () -> lantern.step(23, 0));
        due.is("2: 80 steps", lantern.restart(), 80);
    }

    private static void stepsRefused() {
        Lantern lantern = new Lantern();
        int[][] wrong = {{-1, 0}, {23, 0}, {Integer.MAX_VALUE, 0}, {Integer.MIN_VALUE, 0},
            {12, -1}, {12, 12}, {13, -1}, {13, 12}, {16, -1}, {16, 81}, {17, -1}, {17, 81}, {18, -1}, {18, 81}};
        for (int[] pair : wrong) {
            due.refused("2: " + pair[0] + " " + pair[1], lantern, Programs.ARGUMENT,
                () -> lantern.step(pair[0], pair[1]));
        }
        due.is("2: none was added", lantern.restart(), 0);
    }

    private static void rewriting() {
        Lantern lantern = Programs.of(Programs.PUSH, 4, Programs.STORE, 2, Programs.HALT, 0);
        lantern.run(2);
        due.is("3: code before", lantern.rewrite(1, Programs.STORE, 7), Programs.STORE);
        due.is("3: code before again", lantern.rewrite(1, Programs.WRITE, 5), Programs.STORE);
        due.is("3: the new code", lantern.ofStep(1, 0), Programs.WRITE);
        due.is("3: the new number", lantern.ofStep(1, 1), 5);
        due.is("3: times stay", lantern.ofStep(1, 2), 1);
        due.is("3: the past has what was done", lantern.wroteAgo(2), 1);
        due.is("3: nothing was stored into the other", lantern.wroteAgo(7), 0);
        lantern.back(1);
        due.is("3: back over a step written otherwise", lantern.cell(2), 0);
        due.is("3: and the stack", lantern.stack(0), 4);
        lantern.run(1);
        due.is("3: the new step is done", lantern.output(0), 4);
        lantern.run(5);
        lantern.rewrite(2, Programs.GO, 0);
        due.is("3: halted stays so", lantern.run(1), 0);

        Lantern failed = Programs.of(Programs.POP, 0);
        failed.run(1);
        failed.rewrite(0, Programs.PUSH, 1);
        due.is("3: failed stays so", failed.told(Programs.STATUS), 2);
        due.is("3: and does nothing", failed.run(3), 0);
    }

    private static void rewritingRefused() {
        Lantern lantern = Programs.of(Programs.PUSH, 4);
        due.refused("3: step 1", lantern, Programs.INDEX, () -> lantern.rewrite(1, 0, 0));
        due.refused("3: step -1", lantern, Programs.INDEX, () -> lantern.rewrite(-1, 0, 0));
        due.refused("3: index first", lantern, Programs.INDEX, () -> lantern.rewrite(1, 23, 0));
        due.refused("3: code 23", lantern, Programs.ARGUMENT, () -> lantern.rewrite(0, 23, 0));
        due.refused("3: STORE 12", lantern, Programs.ARGUMENT, () -> lantern.rewrite(0, 13, 12));
        due.refused("3: CALL 81", lantern, Programs.ARGUMENT, () -> lantern.rewrite(0, 18, 81));
    }

    private static void giving() {
        Lantern lantern = Programs.of(Programs.READ, 0, Programs.WRITE, 0, Programs.GO, 0);
        for (int i = 1; i <= 20; i++) {
            due.is("4: give " + i, lantern.give(i * 7), i);
        }
        due.refused("4: give 21", lantern, Programs.STATE, () -> lantern.give(1));
        lantern.run(62);
        due.is("4: all were read", lantern.told(Programs.WAS_READ), 20);
        due.is("4: in their order", lantern.output(0), 7);
        due.is("4: the last", lantern.output(19), 140);
        due.is("4: 0 behind all", lantern.output(20), 0);
    }

    private static void restarting() {
        Lantern lantern = Programs.caller();
        lantern.give(7);
        lantern.give(3);
        lantern.point(7, 2);
        lantern.point(4, 0);
        lantern.watch(0, 1, 0);
        lantern.run(500);
        lantern.record(1);
        due.is("5: steps", lantern.restart(), 9);
        due.is("5: at", lantern.told(Programs.AT), 0);
        due.is("5: clock", lantern.told(Programs.CLOCK), 0);
        due.is("5: frames", lantern.told(Programs.FRAMES), 0);
        due.is("5: read", lantern.told(Programs.WAS_READ), 0);
        due.is("5: past", lantern.told(Programs.PAST), 0);
        due.is("5: reason", lantern.told(Programs.REASON), 0);
        due.is("5: cause", lantern.told(Programs.CAUSE), -1);
        due.is("5: times", lantern.ofStep(0, 2), 0);
        due.is("5: the cause stays counted", lantern.ofPoint(1, 3), 1);
        due.is("5: pass stays", lantern.ofPoint(0, 2), 2);
        due.is("5: the record stays", lantern.parts(1), -1);
        due.is("5: the input stays", lantern.outputWith(1, 0), 49);
        due.is("5: the watch stays", lantern.unwatch(), 1);
        lantern.turn(0, false, 0);
        lantern.turn(1, false, 0);
        lantern.run(500);
        due.is("5: halted", lantern.told(Programs.STATUS), 1);
        lantern.restart();
        due.is("5: ready again", lantern.told(Programs.STATUS), 0);
        due.is("5: no output", lantern.told(Programs.IN_OUTPUT), 0);
        Lantern counter = Programs.counter();
        counter.run(8);
        counter.restart();
        due.is("5: cells are 0", counter.cell(0), 0);
        due.is("5: nothing stored", counter.wroteAgo(0), 0);
        due.is("5: empty stack", counter.told(Programs.ON_STACK), 0);
    }

    private static int reckoned(int a, int b, int code) {
        Lantern lantern = Programs.of(Programs.PUSH, 5, Programs.PUSH, a, Programs.PUSH, b, code, 0);
        due.is(code + " does", lantern.run(4), 4);
        due.is(code + " takes two", lantern.told(Programs.ON_STACK), 2);
        due.is(code + " goes on", lantern.told(Programs.AT), 4);
        return lantern.stack(0);
    }

    private static void reckoning() {
        due.is("ADD", reckoned(7, 5, Programs.ADD), 12);
        due.is("ADD wraps", reckoned(Integer.MAX_VALUE, 1, Programs.ADD), Integer.MIN_VALUE);
        due.is("LESS", reckoned(7, 5, Programs.LESS), 2);
        due.is("LESS wraps", reckoned(Integer.MIN_VALUE, 1, Programs.LESS), Integer.MAX_VALUE);
        due.is("TIMES", reckoned(7, -5, Programs.TIMES), -35);
        due.is("TIMES wraps", reckoned(65536, 65536, Programs.TIMES), 0);
        due.is("PER", reckoned(17, 5, Programs.PER), 3);
        due.is("PER towards 0", reckoned(-17, 5, Programs.PER), -3);
        due.is("PER wraps", reckoned(Integer.MIN_VALUE, -1, Programs.PER), Integer.MIN_VALUE);
        due.is("IS BELOW", reckoned(4, 5, Programs.IS_BELOW), 1);
        due.is("IS BELOW, same", reckoned(5, 5, Programs.IS_BELOW), 0);
        due.is("IS BELOW far", reckoned(Integer.MIN_VALUE, Integer.MAX_VALUE, Programs.IS_BELOW), 1);
        due.is("IS SAME", reckoned(5, 5, Programs.IS_SAME), 1);
        due.is("IS SAME, other", reckoned(4, 5, Programs.IS_SAME), 0);
    }

    private static void shuffling() {
        Lantern lantern = Programs.of(Programs.PUSH, 1, Programs.PUSH, 2, Programs.SWAP, 0, Programs.OVER, 0,
            Programs.TWICE, 0, Programs.NOT, 0, Programs.NOT, 0, Programs.POP, 0);
        lantern.run(3);
        due.is("SWAP top", lantern.stack(0), 1);
        due.is("SWAP second", lantern.stack(1), 2);
        lantern.run(1);
        due.is("OVER", lantern.stack(0), 2);
        lantern.run(1);
        due.is("TWICE", lantern.stack(0), 2);
        due.is("TWICE keeps", lantern.told(Programs.ON_STACK), 4);
        lantern.run(1);
        due.is("NOT 2", lantern.stack(0), 0);
        lantern.run(1);
        due.is("NOT 0", lantern.stack(0), 1);
        lantern.run(1);
        due.is("POP", lantern.told(Programs.ON_STACK), 3);
    }

    private static void cells() {
        Lantern lantern = Programs.of(Programs.PUSH, 40, Programs.PUSH, 11, Programs.STORE_AT, 0,
            Programs.LOAD, 11, Programs.STORE, 3, Programs.PUSH, 3, Programs.LOAD_AT, 0);
        lantern.run(3);
        due.is("STORE AT", lantern.cell(11), 40);
        due.is("STORE AT takes both", lantern.told(Programs.ON_STACK), 0);
        lantern.run(2);
        due.is("LOAD and STORE", lantern.cell(3), 40);
        due.is("STORE takes", lantern.told(Programs.ON_STACK), 0);
        lantern.run(2);
        due.is("LOAD AT", lantern.stack(0), 40);
        due.is("LOAD AT takes", lantern.told(Programs.ON_STACK), 1);
    }

    private static void going() {
        Lantern lantern = Programs.of(Programs.GO, 2, Programs.HALT, 0, Programs.PUSH, 0, Programs.IF_NOT, 5,
            Programs.HALT, 0, Programs.PUSH, 9, Programs.IF_NOT, 1, Programs.CALL, 9, Programs.HALT, 0,
            Programs.RETURN, 0);
        lantern.run(1);
        due.is("GO", lantern.told(Programs.AT), 2);
        lantern.run(2);
        due.is("IF NOT of 0", lantern.told(Programs.AT), 5);
        due.is("IF NOT takes", lantern.told(Programs.ON_STACK), 0);
        lantern.run(2);
        due.is("IF NOT of 9", lantern.told(Programs.AT), 7);
        lantern.run(1);
        due.is("CALL", lantern.told(Programs.AT), 9);
        due.is("CALL opens", lantern.frame(0), 8);
        lantern.run(1);
        due.is("RETURN", lantern.told(Programs.AT), 8);
        due.is("RETURN closes", lantern.told(Programs.FRAMES), 0);
        due.is("HALT is one done", lantern.run(5), 1);
        due.is("HALT stays at its step", lantern.told(Programs.AT), 8);
        due.is("HALT is on the clock", lantern.told(Programs.CLOCK), 8);
        due.is("HALT is counted", lantern.ofStep(8, 2), 1);
        due.is("HALT is in the past", lantern.then(1, 0), 8);
    }

    private static void readingAndWriting() {
        Lantern lantern = Programs.of(Programs.READ, 0, Programs.READ, 0, Programs.READ, 0, Programs.WRITE, 0);
        lantern.give(6);
        lantern.run(2);
        due.is("READ without any", lantern.stack(0), 0);
        due.is("READ 6", lantern.stack(1), 6);
        due.is("READ none is none read", lantern.told(Programs.WAS_READ), 1);
        lantern.give(8);
        lantern.run(2);
        due.is("what is given later comes next", lantern.output(0), 8);
        due.is("WRITE takes", lantern.told(Programs.ON_STACK), 2);
    }

    private static void fails(String what, Lantern lantern, int steps, int code) {
        due.is(what + ": so many done", lantern.run(500), steps);
        due.is(what, lantern.told(Programs.STATUS), code);
        due.is(what + ": clock", lantern.told(Programs.CLOCK), steps);
        due.is(what + ": reason", lantern.told(Programs.REASON), 2);
        due.is(what + ": once more", lantern.run(500), 0);
        due.is(what + ": reason again", lantern.told(Programs.REASON), 2);
    }

    private static void failing() {
        int[] needsOne = {Programs.POP, Programs.TWICE, Programs.NOT, Programs.STORE, Programs.LOAD_AT,
            Programs.IF_NOT, Programs.WRITE};
        for (int code : needsOne) {
            fails(code + " needs one", Programs.of(code, 0), 0, 2);
        }
        for (int code : new int[] {3, 4, 5, 6, 7, 8, 9, 10, 15}) {
            fails(code + " needs two", Programs.of(code, 0), 0, 2);
            fails(code + " needs two, has one", Programs.of(Programs.PUSH, 0, code, 0), 1, 2);
        }
        fails("RETURN without a frame", Programs.of(Programs.RETURN, 0), 0, 2);
        for (int code : new int[] {Programs.PUSH, Programs.TWICE, Programs.OVER, Programs.LOAD, Programs.READ}) {
            Lantern full = new Lantern();
            for (int i = 0; i < 24; i++) {
                full.step(Programs.PUSH, i);
            }
            full.step(code, 0);
            full.give(4);
            fails(code + " with a full stack", full, 24, 3);
            due.is(code + " keeps the stack", full.told(Programs.ON_STACK), 24);
            due.is(code + " reads none", full.told(Programs.WAS_READ), 0);
        }
        fails("a ninth frame", Programs.of(Programs.CALL, 0), 8, 3);
        fails("PUSH in a round", Programs.of(Programs.PUSH, 1, Programs.WRITE, 0, Programs.GO, 0), 91, 3);
        fails("GO where no step is", Programs.of(Programs.GO, 80), 1, 6);
        fails("behind the last step", Programs.of(Programs.PUSH, 1), 1, 6);
        fails("no step at all", new Lantern(), 0, 6);
        Lantern grown = new Lantern();
        grown.run(1);
        grown.step(Programs.PUSH, 1);
        due.is("failed stays so with a new step", grown.told(Programs.STATUS), 6);
    }

    private static void ranksOfFailures() {
        fails("PER 0", Programs.of(Programs.PUSH, 1, Programs.PUSH, 0, Programs.PER, 0), 2, 4);
        fails("PER 0 without a second", Programs.of(Programs.PUSH, 0, Programs.PER, 0), 1, 2);
        fails("LOAD AT 12", Programs.of(Programs.PUSH, 12, Programs.LOAD_AT, 0), 1, 5);
        fails("LOAD AT -1", Programs.of(Programs.PUSH, -1, Programs.LOAD_AT, 0), 1, 5);
        fails("STORE AT 12", Programs.of(Programs.PUSH, 1, Programs.PUSH, 12, Programs.STORE_AT, 0), 2, 5);
        fails("STORE AT 12 without a second", Programs.of(Programs.PUSH, 12, Programs.STORE_AT, 0), 1, 2);
        Lantern lacking = new Lantern();
        for (int i = 0; i < 30; i++) {
            lacking.step(Programs.PUSH, 1);
            lacking.step(Programs.WRITE, 0);
        }
        lacking.step(Programs.WRITE, 0);
        fails("WRITE without any ahead of a full output", lacking, 60, 2);
        Lantern kept = Programs.of(Programs.PUSH, 1, Programs.PUSH, 0, Programs.PER, 0);
        kept.run(9);
        due.is("nothing is taken by a fail", kept.told(Programs.ON_STACK), 2);
        due.is("nothing is counted by a fail", kept.ofStep(2, 2), 0);
        due.is("one is at the step still", kept.told(Programs.AT), 2);
        due.is("the past has none of it", kept.told(Programs.PAST), 2);
    }
}
