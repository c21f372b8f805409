/** Promises 11 to 15. */
public final class RunningTest {
    private static final Due due = new Due("RunningTest");

    public static void main(String[] args) {
        running();
        runsRefused();
        goingOver();
        goingOut();
        goingBack();
        backUndoesEachCode();
        backToWhatWasWrittenOver();
        backFromFailed();
        goneFromThePast();
        backRunToPoints();
        backRunToWatches();
        due.end();
    }

    private static void running() {
        Lantern lantern = Programs.counter();
        due.is("11: one", lantern.run(1), 1);
        due.stopped("11: one", lantern, 6, -1);
        due.is("11: 500", lantern.run(500), 500);
        due.is("11: clock", lantern.told(Programs.CLOCK), 501);
        due.is("11: cell", lantern.cell(0), 100);
        Lantern short3 = Programs.of(Programs.PUSH, 1, Programs.POP, 0, Programs.HALT, 0);
        due.is("11: to the end", short3.run(3), 3);
        due.stopped("11: to the end, which counts ahead of most", short3, 1, -1);
        due.is("11: halted does nothing", short3.run(3), 0);
        due.stopped("11: halted", short3, 1, -1);
        Lantern failing = Programs.of(Programs.PUSH, 1, Programs.ADD, 0);
        due.is("11: up to a fail", failing.run(1), 1);
        due.is("11: it is not looked ahead", failing.told(Programs.STATUS), 0);
        due.stopped("11: up to a fail", failing, 6, -1);
        due.is("11: fails", failing.run(1), 0);
        due.stopped("11: fails", failing, 2, -1);
        Lantern last = Programs.counter();
        last.point(2, 0);
        last.run(2);
        due.stopped("11: a point counts ahead of most", last, 5, 0);
    }

    private static void runsRefused() {
        Lantern lantern = Programs.caller();
        for (int most : new int[] {0, -1, 501, Integer.MIN_VALUE, Integer.MAX_VALUE}) {
            due.refused("11: run " + most, lantern, Programs.ARGUMENT, () -> lantern.run(most));
            due.refused("12: over " + most, lantern, Programs.ARGUMENT, () -> lantern.over(most));
            due.refused("13: out " + most, lantern, Programs.ARGUMENT, () -> lantern.out(most));
        }
        due.refused("13: no frame", lantern, Programs.STATE, () -> lantern.out(1));
        for (int many : new int[] {0, -1, 201, Integer.MIN_VALUE}) {
            due.refused("14: back " + many, lantern, Programs.ARGUMENT, () -> lantern.back(many));
        }
    }

    private static void goingOver() {
        Lantern lantern = Programs.caller();
        lantern.give(7);
        lantern.point(0, 0);
        lantern.point(3, 0);
        due.is("12: to a point within", lantern.over(500), 1);
        due.stopped("12: to a point within", lantern, 5, 1);
        lantern.restart();
        lantern.turn(1, false, 0);
        due.is("12: over a call", lantern.over(500), 7);
        due.stopped("12: over a call", lantern, 4, -1);
        due.is("12: behind the call", lantern.told(Programs.AT), 1);
        lantern.restart();
        due.is("12: not all of a call", lantern.over(6), 6);
        due.stopped("12: not all of a call", lantern, 6, -1);
        lantern.restart();
        lantern.run(2);
        due.is("12: over the inner call", lantern.over(500), 4);
        due.is("12: behind the inner call", lantern.told(Programs.AT), 5);
        lantern.point(1, 1);
        due.is("12: over RETURN is one step", lantern.over(500), 1);
        due.stopped("12: over RETURN", lantern, 4, -1);
        due.is("12: the point was not asked", lantern.ofPoint(2, 2), 1);
        lantern.over(500);
        due.is("12: HALT counts ahead of the goal", lantern.over(500), 1);
        due.stopped("12: HALT", lantern, 1, -1);
        Lantern round = Programs.of(Programs.CALL, 1, Programs.HALT, 0);
        due.is("12: a call that halts", round.over(9), 2);
        due.stopped("12: a call that halts", round, 1, -1);
    }

    private static void goingOut() {
        Lantern lantern = Programs.caller();
        lantern.give(7);
        lantern.run(4);
        due.is("13: two frames", lantern.told(Programs.FRAMES), 2);
        due.is("13: out of the inner one", lantern.out(500), 2);
        due.stopped("13: out of the inner one", lantern, 4, -1);
        due.is("13: at its way back", lantern.told(Programs.AT), 5);
        lantern.back(4);
        due.is("13: out of the outer one, by the inner", lantern.out(500), 5);
        due.is("13: no frame", lantern.told(Programs.FRAMES), 0);
        lantern.back(6);
        lantern.point(1, 1);
        due.is("13: too few", lantern.out(3), 3);
        due.stopped("13: too few", lantern, 6, -1);
        lantern.out(500);
        due.is("13: the goal counts ahead of points", lantern.ofPoint(0, 2), 1);
        Lantern halted = Programs.of(Programs.CALL, 1, Programs.HALT, 0);
        halted.run(9);
        due.is("13: halted within a frame", halted.out(9), 0);
        due.stopped("13: halted within a frame", halted, 1, -1);
    }

    private static void goingBack() {
        Lantern lantern = Programs.counter();
        due.is("14: no past", lantern.back(1), 0);
        due.stopped("14: no past", lantern, 7, -1);
        lantern.run(14);
        due.is("14: four", lantern.back(4), 4);
        due.stopped("14: four", lantern, 7, -1);
        due.is("14: clock", lantern.told(Programs.CLOCK), 10);
        due.is("14: past", lantern.told(Programs.PAST), 10);
        due.is("14: cell", lantern.cell(0), 2);
        due.is("14: at", lantern.told(Programs.AT), 0);
        due.is("14: how often stays", lantern.ofStep(3, 2), 3);
        due.is("14: as far as there is", lantern.back(200), 10);
        due.is("14: all", lantern.told(Programs.PAST), 0);
        due.is("14: cell at first", lantern.cell(0), 0);
        Lantern halted = Programs.of(Programs.HALT, 0);
        halted.run(1);
        due.is("14: from HALTED", halted.back(1), 1);
        due.is("14: is ready", halted.told(Programs.STATUS), 0);
        Lantern passing = Programs.counter();
        passing.point(1, 2);
        passing.run(1);
        passing.back(1);
        due.is("14: what was passed stays so", passing.ofPoint(0, 2), 1);
    }

    /** Each code is done once and taken back; what is seen then is what was seen ahead of it. */
    private static void backUndoesEachCode() {
        for (int code = 0; code <= 22; code++) {
            Lantern lantern = Programs.of(Programs.PUSH, 5, Programs.PUSH, 9, Programs.PUSH, 8,
                Programs.WRITE, 0, Programs.CALL, 5, Programs.PUSH, 7, Programs.STORE, 4, Programs.PUSH, 4,
                code, code >= 12 && code <= 18 ? 4 : 3);
            lantern.give(77);
            lantern.run(8);
            long[] before = Programs.shown(lantern);
            due.is("14: " + code + " is done", lantern.run(1), 1);
            due.is("14: " + code + " is taken back", lantern.back(1), 1);
            due.areSame("14: " + code + " taken back", Programs.shown(lantern), before);
        }
    }

    /** What was taken, and written over since, comes again. */
    private static void backToWhatWasWrittenOver() {
        Lantern lantern = Programs.of(Programs.READ, 0, Programs.CALL, 5, Programs.CALL, 5, Programs.WRITE, 0,
            Programs.HALT, 0, Programs.POP, 0, Programs.READ, 0, Programs.RETURN, 0);
        lantern.give(4);
        lantern.give(5);
        lantern.give(6);
        lantern.run(99);
        due.is("14: written", lantern.output(0), 6);
        lantern.back(4);
        due.is("14: second READ is to come", lantern.told(Programs.WAS_READ), 2);
        due.is("14: second way back", lantern.frame(0), 3);
        lantern.back(3);
        due.is("14: within the first call", lantern.told(Programs.AT), 7);
        due.is("14: its way back", lantern.frame(0), 2);
        due.is("14: what it read", lantern.stack(0), 5);
        lantern.back(1);
        due.is("14: ahead of what it read", lantern.told(Programs.WAS_READ), 1);
        due.is("14: done again", lantern.run(99), 8);
        due.is("14: written again", lantern.output(0), 6);
    }

    private static void backFromFailed() {
        Lantern lantern = Programs.of(Programs.PUSH, 1, Programs.POP, 0, Programs.POP, 0);
        lantern.run(9);
        due.is("14: failed", lantern.told(Programs.STATUS), 2);
        due.is("14: one back from failed", lantern.back(1), 1);
        due.is("14: ready then", lantern.told(Programs.STATUS), 0);
        due.is("14: ahead of the latest step done", lantern.told(Programs.AT), 1);
        due.is("14: its stack", lantern.stack(0), 1);
        Lantern nothing = new Lantern();
        nothing.run(1);
        nothing.back(1);
        due.is("14: failed without a past stays so", nothing.told(Programs.STATUS), 6);
        due.is("15: too", nothing.backRun(), 0);
        due.is("15: still failed", nothing.told(Programs.STATUS), 6);
    }

    private static void goneFromThePast() {
        Lantern lantern = Programs.counter();
        lantern.run(200);
        due.is("14: 200", lantern.told(Programs.PAST), 200);
        due.is("25: begins at start", lantern.record(0), 200);
        lantern.run(53);
        due.is("14: 200 still", lantern.told(Programs.PAST), 200);
        due.is("14: all 200", lantern.back(200), 200);
        due.is("14: clock then", lantern.told(Programs.CLOCK), 53);
        due.is("14: cell then", lantern.cell(0), 10);
        due.is("14: stack then", lantern.told(Programs.ON_STACK), 1);
        due.is("14: top then", lantern.stack(0), 11);
        due.is("14: no more", lantern.back(1), 0);
        due.refused("25: what is gone does not come again", lantern, Programs.STATE, () -> lantern.record(1));
        due.is("15: none", lantern.backRun(), 0);
        lantern.run(499);
        due.is("15: as far as there is", lantern.backRun(), 200);
        due.stopped("15: as far as there is", lantern, 7, -1);
    }

    private static void backRunToPoints() {
        Lantern lantern = Programs.counter();
        lantern.point(2, 50);
        lantern.point(2, 0);
        lantern.condition(1, 2, 0, 1);
        lantern.run(7);
        due.stopped("15: stopped at a point", lantern, 5, 1);
        lantern.turn(0, false, 40);
        due.is("15: one at least, none else", lantern.backRun(), 7);
        due.stopped("15: the condition never held", lantern, 7, -1);
        lantern.turn(0, true, 40);
        lantern.run(4);
        due.is("15: to the point, whatever it has to pass", lantern.backRun(), 2);
        due.stopped("15: to the point", lantern, 5, 0);
        due.is("15: nothing is passed", lantern.ofPoint(0, 2), 39);
        due.is("15: it is not counted", lantern.ofPoint(0, 3), 0);
        lantern.turn(0, true, 0);
        lantern.condition(0, 3, 0, 5);
        lantern.turn(1, false, 9);
        lantern.run(20);
        lantern.condition(0, 0, 0, 0);
        lantern.turn(0, false, 0);
        lantern.turn(1, true, 9);
        lantern.backRun();
        due.is("15: where its condition holds", lantern.cell(0), 1);
        due.stopped("15: where its condition holds", lantern, 5, 1);
        due.is("15: at", lantern.told(Programs.AT), 2);
        Lantern first = Programs.counter();
        first.run(3);
        first.point(0, 0);
        due.is("15: to start", first.backRun(), 3);
        due.stopped("15: a point at start", first, 5, 0);
    }

    private static void backRunToWatches() {
        Lantern lantern = Programs.of(Programs.PUSH, 0, Programs.STORE, 3, Programs.PUSH, 6, Programs.STORE, 3,
            Programs.PUSH, 6, Programs.STORE, 3, Programs.PUSH, 9, Programs.STORE, 2, Programs.HALT, 0);
        lantern.run(99);
        lantern.watch(1, 0, 0);
        lantern.watch(3, 1, 0);
        lantern.watch(3, 2, 555);
        lantern.point(3, 0);
        due.is("15: to where the cell becomes another one, of whatever kind", lantern.backRun(), 6);
        due.stopped("15: a watch ahead of a point, the smallest", lantern, 3, 1);
        due.is("15: the cell", lantern.cell(3), 0);
        due.is("15: at the step that stores", lantern.told(Programs.AT), 3);
        due.is("15: a store of the same does not stop", lantern.backRun(), 3);
        due.stopped("15: at start", lantern, 7, -1);
        lantern.unwatch();
        lantern.run(99);
        lantern.run(99);
        lantern.watch(2, 2, 555);
        due.is("15: watch 0", lantern.backRun(), 2);
        due.stopped("15: watch 0", lantern, 3, 0);
        lantern.unwatch();
        lantern.run(99);
        due.is("15: the point without watches", lantern.backRun(), 6);
        due.stopped("15: the point without watches", lantern, 5, 0);
    }
}
