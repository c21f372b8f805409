import java.math.BigInteger;
import java.util.ArrayList;
import java.util.List;

/** The edges of promises 1 to 10 and 16 to 32: the empty, the full and the last case of each. */
public final class EdgesOfCallsTest {
    private static final Due due = new Due("EdgesOfCallsTest");

    private static final int MIN = Integer.MIN_VALUE;
    private static final int MAX = Integer.MAX_VALUE;

    public static void main(String[] args) {
        nothingAtFirst();
        numbersThatAreNotLookedAt();
        rewritingTheFirstAndTheLast();
        rewritingWhatIsDoneNoMore();
        restartingAtOnce();
        restartLeavesPoints();
        unwatchingUpToFour();
        turningUpTo99();
        thenUpTo200();
        thenWithoutAny();
        thenOfEachCell();
        wroteAgoUpTo200();
        recordsOfNothing();
        recordsOf200();
        recordsOfTheInput();
        recordsWrittenOver();
        replayIsStart();
        partsAtTheEnds();
        endsInWhereItIsNotReady();
        endsInAtItsMost();
        cellInAtItsMost();
        outputWithEachPlace();
        outputWithWrapsAround();
        outputWithin300();
        outputFromStart();
        heatIsNotCut();
        digestOfNothing();
        digestWrapsAround();
        usedFor512Calls();
        due.end();
    }

    /** "Creates a debugger without STEPS." */
    private static void nothingAtFirst() {
        int[] told = {0, 0, 0, 0, 0, 0, 0, 0, 0, -1};
        for (int what = 0; what < told.length; what++) {
            due.is("1: told " + what, new Lantern().told(what), told[what]);
        }
        due.is("5: no STEPS", new Lantern().restart(), 0);
        due.is("10: no WATCHES", new Lantern().unwatch(), 0);
        due.is("14: no PAST", new Lantern().back(200), 0);
        due.is("15: no PAST", new Lantern().backRun(), 0);
        due.is("25: nothing was done yet", new Lantern().record(0), 0);
        due.is("28: it FAILS at once", new Lantern().endsIn(500), 0);
        due.is("29: the CELL as it is", new Lantern().cellIn(11, 500), 0);
        due.isNear("31: none was done", new Lantern().heat(), 0);
        due.is("2: the first STEP", new Lantern().step(0, 0), 0);
        due.is("4: the first number", new Lantern().give(0), 1);
        due.is("6: the first POINT", new Lantern().point(0, 0), 0);
        due.is("9: the first WATCH", new Lantern().watch(0, 0, 0), 0);
        due.is("11: no STEP to do", new Lantern().run(500), 0);
        due.is("12: no STEP to do", new Lantern().over(500), 0);
    }

    /** "not looked at otherwise". */
    private static void numbersThatAreNotLookedAt() {
        int[] codes = {1, 2, 3, 4, 5, 6, 7, 8, 9, 10, 11, 14, 15, 19, 20, 21, 22};
        for (int code : codes) {
            for (int n : new int[] {MIN, -1, 12, 81, MAX}) {
                Lantern with = Programs.of(Programs.CALL, 1, Programs.PUSH, 3, Programs.PUSH, 4, code, n);
                Lantern without = Programs.of(Programs.CALL, 1, Programs.PUSH, 3, Programs.PUSH, 4, code, 0);
                due.is("21: the number of " + code + " as it was given", with.ofStep(3, 1), n);
                due.is("2: " + code + " " + n, with.run(4), 4);
                without.run(4);
                due.areSame("2: " + code + " " + n, Programs.shown(with), Programs.shown(without));
            }
        }
        Lantern written = Programs.of(Programs.PUSH, 3);
        written.rewrite(0, Programs.POP, MIN);
        due.is("21: the number as it was rewritten", written.ofStep(0, 1), MIN);
        Lantern lantern = Programs.counter();
        lantern.watch(0, 0, MIN);
        lantern.watch(0, 1, MAX);
        lantern.run(9);
        due.stopped("9: n is not looked at with kind 0", lantern, 3, 0);
        lantern.unwatch();
        lantern.point(2, 0);
        for (int cell : new int[] {MIN, -1, 0, 11, 12, 13, MAX}) {
            String what = "7: CELL " + cell + " is not looked at with 0";
            due.is(what, lantern.condition(0, 0, cell, MAX), 0);
            due.is(what + ", running", lantern.run(9) > 0 ? 1 : 0, 1);
            due.stopped(what + ", running", lantern, 5, 0);
            due.is(what + ", going BACK", lantern.run(3) + lantern.backRun(), 6);
            due.stopped(what + ", going BACK", lantern, 5, 0);
        }
    }

    private static void rewritingTheFirstAndTheLast() {
        Lantern lantern = new Lantern();
        for (int i = 0; i < 80; i++) {
            lantern.step(Programs.PUSH, i);
        }
        due.is("3: the first", lantern.rewrite(0, Programs.GO, 79), Programs.PUSH);
        due.is("3: the last", lantern.rewrite(79, Programs.HALT, 4), Programs.PUSH);
        due.is("3: the last again", lantern.rewrite(79, Programs.PUSH, MIN), Programs.HALT);
        due.is("21: the first", lantern.ofStep(0, 0), Programs.GO);
        due.is("21: its number", lantern.ofStep(0, 1), 79);
        due.is("21: the second is as it was", lantern.ofStep(1, 1), 1);
        due.is("21: the last", lantern.ofStep(79, 1), MIN);
        due.is("11: both are done", lantern.run(9), 2);
        due.is("21: the last, once", lantern.ofStep(79, 2), 1);
        due.is("21: the one ahead of it, never", lantern.ofStep(78, 2), 0);
        due.is("5: 80 still", lantern.restart(), 80);
    }

    /** "(A STATE that is FAILED stays so.)". */
    private static void rewritingWhatIsDoneNoMore() {
        for (int code = 2; code <= 6; code++) {
            Lantern lantern = failing(code);
            lantern.run(500);
            due.is("3: FAILED " + code, lantern.told(Programs.STATUS), code);
            int at = lantern.told(Programs.AT);
            if (code == 6) {
                due.is("2: the STEP that was not there", lantern.step(Programs.HALT, 0), at);
            } else {
                lantern.rewrite(at, Programs.HALT, 0);
            }
            due.is("3: stays FAILED " + code, lantern.told(Programs.STATUS), code);
            due.is("3: does nothing", lantern.run(9), 0);
            due.is("28: ends at once", lantern.endsIn(9), 0);
            due.stopped("3: stays so", lantern, 2, -1);
            due.is("14: but for one BACK", lantern.back(1), 1);
            due.is("3: and what is written now is done", lantern.run(9), 2);
            due.stopped("3: what is written now", lantern, 1, -1);
        }
        Lantern halted = Programs.of(Programs.HALT, 0);
        halted.run(1);
        halted.rewrite(0, Programs.PUSH, 5);
        due.is("3: HALTED stays so, too", halted.run(9), 0);
        due.is("3: HALTED", halted.told(Programs.STATUS), 1);
    }

    private static Lantern failing(int code) {
        switch (code) {
            case 2: return Programs.of(Programs.PUSH, 0, Programs.ADD, 0);
            case 3: return Programs.pushing(25, 1);
            case 4: return Programs.of(Programs.PUSH, 0, Programs.PUSH, 0, Programs.PER, 0);
            case 5: return Programs.of(Programs.PUSH, 12, Programs.LOAD_AT, 0);
            default: return Programs.of(Programs.PUSH, 1);
        }
    }

    private static void restartingAtOnce() {
        Lantern lantern = new Lantern();
        long before = lantern.digest();
        due.is("5: of none", lantern.restart(), 0);
        due.is("5: nothing to change", lantern.digest(), before);
        Lantern failed = Programs.of(Programs.POP, 0);
        failed.run(1);
        due.is("5: of one", failed.restart(), 1);
        due.is("5: READY", failed.told(Programs.STATUS), 0);
        due.stopped("5: as at first", failed, 0, -1);
        Lantern gone = Programs.counter();
        gone.run(201);
        gone.restart();
        due.is("5: the PAST begins at START again", gone.record(0), 0);
        due.is("5: and goes on so", gone.run(200), 200);
        due.is("25: for 200", gone.record(0), 200);
    }

    /** "POINTS (as they are, what they PASS and how often they were the CAUSE, too), WATCHES and RECORDS". */
    private static void restartLeavesPoints() {
        Lantern lantern = Programs.of(Programs.GO, 0);
        lantern.point(0, 3);
        lantern.point(0, 99);
        lantern.turn(1, false, 98);
        lantern.point(0, 0);
        lantern.condition(2, 2, 4, 0);
        lantern.record(0);
        lantern.watch(2, 1, 0);
        lantern.run(500);
        lantern.run(500);
        due.is("5: one", lantern.restart(), 1);
        int[][] want = {{0, 1, 1, 0}, {0, 0, 98, 0}, {0, 1, 0, 2}};
        for (int point = 0; point < want.length; point++) {
            for (int what = 0; what < 4; what++) {
                due.is("5: POINT " + point + ", " + what, lantern.ofPoint(point, what), want[point][what]);
            }
        }
        due.is("5: the CONDITION", lantern.condition(2, 0, 0, 0), 2);
        due.is("5: the WATCH", lantern.unwatch(), 1);
        due.is("5: the RECORD", lantern.parts(0), -1);
        due.is("5: done 0 times", lantern.ofStep(0, 2), 0);
    }

    /** "Drops all WATCHES.", "At most 4, numbered from 0". */
    private static void unwatchingUpToFour() {
        Lantern lantern = Programs.counter();
        for (int many = 0; many <= 4; many++) {
            for (int i = 0; i < many; i++) {
                due.is("9: its number", lantern.watch(0, 1, 0), i);
            }
            due.is("10: so many there were", lantern.unwatch(), many);
            lantern.run(5);
            due.stopped("10: none is asked", lantern, 6, -1);
            lantern.backRun();
            due.stopped("10: nor going BACK", lantern, 7, -1);
        }
    }

    /** "how many times to PASS from now on", "how many times there were to PASS still". */
    private static void turningUpTo99() {
        Lantern lantern = Programs.of(Programs.GO, 0);
        for (int point = 0; point < 6; point++) {
            lantern.point(79, point);
        }
        due.is("8: the first", lantern.turn(0, true, 99), 0);
        due.is("8: the last", lantern.turn(5, false, 99), 5);
        due.is("8: 99", lantern.turn(5, true, 0), 99);
        due.is("8: 0", lantern.turn(5, true, 7), 0);
        due.is("8: the first has its own", lantern.ofPoint(0, 2), 99);
        due.is("22: the last is ON", lantern.ofPoint(5, 1), 1);
        due.is("22: the last has its own", lantern.ofPoint(5, 2), 7);
        due.is("22: the fifth is as it was", lantern.ofPoint(4, 2), 4);
        due.is("22: a STEP that is not there", lantern.ofPoint(5, 0), 79);
    }

    /** "as it was so many STATES of the PAST ago (0: now)". */
    private static void thenUpTo200() {
        Lantern lantern = Programs.counter();
        lantern.run(201);
        for (int ago = 0; ago <= 200; ago++) {
            int clock = 201 - ago;
            due.is("23: at, " + ago + " ago", lantern.then(ago, 0), clock % 5);
            due.is("23: the CELL, " + ago + " ago", lantern.then(ago, 4), (clock + 1) / 5);
        }
        Lantern deep = new Lantern();
        for (int i = 1; i <= 24; i++) {
            deep.step(Programs.PUSH, i * 7);
        }
        deep.run(24);
        for (int ago = 0; ago <= 24; ago++) {
            due.is("23: on the STACK, " + ago + " ago", deep.then(ago, 1), 24 - ago);
            due.is("23: on top, " + ago + " ago", deep.then(ago, 2), (24 - ago) * 7);
        }
        Lantern calls = Programs.of(Programs.CALL, 0);
        calls.run(9);
        for (int ago = 0; ago <= 8; ago++) {
            due.is("23: FRAMES, " + ago + " ago", calls.then(ago, 3), 8 - ago);
        }
    }

    /** "2 what was on top of it (0 without any)". */
    private static void thenWithoutAny() {
        Lantern lantern = Programs.of(Programs.PUSH, MIN, Programs.POP, 0, Programs.HALT, 0);
        for (int what = 0; what <= 15; what++) {
            due.is("23: at first, " + what, lantern.then(0, what), 0);
        }
        lantern.run(9);
        int[] top = {0, 0, MIN, 0};
        for (int ago = 0; ago < top.length; ago++) {
            due.is("23: on top, " + ago + " ago", lantern.then(ago, 2), top[ago]);
        }
        due.is("23: HALTED now", lantern.then(0, 0), 2);
        due.is("23: at HALT ahead of it", lantern.then(1, 0), 2);
    }

    /** "4 and more: what was in the CELL what - 4". */
    private static void thenOfEachCell() {
        for (int cell = 0; cell < 12; cell++) {
            Lantern lantern = Programs.of(Programs.PUSH, 6, Programs.STORE, cell, Programs.PUSH, 9,
                Programs.STORE, cell);
            lantern.run(4);
            int[] want = {9, 6, 6, 0, 0};
            for (int ago = 0; ago < want.length; ago++) {
                for (int asked = 0; asked < 12; asked++) {
                    due.is("23: CELL " + asked, lantern.then(ago, asked + 4), asked == cell ? want[ago] : 0);
                }
            }
            for (int asked = 0; asked < 12; asked++) {
                due.is("24: CELL " + asked, lantern.wroteAgo(asked), asked == cell ? 1 : 0);
            }
            lantern.back(1);
            due.is("24: the STORE ahead of it", lantern.wroteAgo(cell), 2);
        }
    }

    /** "(1: the latest one)", "0 if nothing was, by the PAST". */
    private static void wroteAgoUpTo200() {
        Lantern lantern = Programs.of(Programs.PUSH, 0, Programs.STORE, 11, Programs.GO, 2);
        due.is("24: nothing", lantern.wroteAgo(11), 0);
        lantern.run(2);
        for (int ago = 1; ago <= 200; ago++) {
            due.is("24: 0 into 0 counts, " + ago + " ago", lantern.wroteAgo(11), ago);
            lantern.run(1);
        }
        due.is("24: gone from the PAST", lantern.wroteAgo(11), 0);
        lantern.back(1);
        due.is("24: it does not come again", lantern.wroteAgo(11), 0);
        lantern.back(200);
        due.is("24: not by all that is left", lantern.wroteAgo(11), 0);
    }

    private static void recordsOfNothing() {
        Lantern lantern = Programs.counter();
        due.is("25: of nothing", lantern.record(0), 0);
        due.is("27: nothing and nothing", lantern.parts(0), -1);
        lantern.run(9);
        due.is("27: nothing and nine", lantern.parts(0), -1);
        due.is("26: nothing is done", lantern.replay(0), 0);
        int[] told = {0, 0, 0, 0, 0, 0, 0, 0, 8, -1};
        for (int what = 0; what < told.length; what++) {
            due.is("26: of nothing, told " + what, lantern.told(what), told[what]);
        }
        Lantern fails = new Lantern();
        fails.record(2);
        due.is("26: without STEPS", fails.replay(2), 0);
        due.is("26: none is tried", fails.told(Programs.STATUS), 0);
        fails.run(1);
        due.is("25: FAILED, and nothing was done", fails.record(0), 0);
        due.is("25: FAILED still", fails.told(Programs.STATUS), 6);
    }

    /** "if the PAST does not begin at START", "as long as nothing of it is gone". */
    private static void recordsOf200() {
        Lantern lantern = Programs.counter();
        lantern.run(199);
        due.is("25: 199", lantern.record(0), 199);
        lantern.run(1);
        due.is("25: 200", lantern.record(1), 200);
        due.is("27: 200 and 200", lantern.parts(1), -1);
        lantern.run(1);
        due.refused("25: 201", lantern, Programs.STATE, () -> lantern.record(2));
        due.refused("27: 201", lantern, Programs.STATE, () -> lantern.parts(1));
        lantern.back(1);
        due.refused("25: 201, one BACK", lantern, Programs.STATE, () -> lantern.record(2));
        due.refused("27: 201, one BACK", lantern, Programs.STATE, () -> lantern.parts(1));
        lantern.back(199);
        due.refused("25: 201, all BACK", lantern, Programs.STATE, () -> lantern.record(2));
        due.refused("27: 201, all BACK", lantern, Programs.STATE, () -> lantern.parts(1));
        due.is("26: 200", lantern.replay(1), 200);
        due.is("26: the PAST begins at START", lantern.parts(1), -1);
        due.is("26: all of it", lantern.told(Programs.PAST), 200);
        due.is("14: to START", lantern.back(200), 200);
        due.is("25: BACK to START", lantern.record(2), 0);
        due.is("26: 199", lantern.replay(0), 199);
    }

    /** "RECORDS the INPUT as it is", "the INPUT becomes that one". */
    private static void recordsOfTheInput() {
        Lantern lantern = Programs.of(Programs.READ, 0, Programs.WRITE, 0, Programs.GO, 0);
        lantern.record(0);
        for (int i = 1; i <= 20; i++) {
            lantern.give(i * i);
        }
        lantern.run(62);
        lantern.record(2);
        due.is("26: without an INPUT", lantern.replay(0), 0);
        due.refused("30: none in the INPUT", lantern, Programs.INDEX, () -> lantern.outputWith(0, 1));
        due.is("4: from 0 again", lantern.give(5), 1);
        due.is("26: with all 20", lantern.replay(2), 62);
        due.is("26: the first", lantern.output(0), 1);
        due.is("26: the last", lantern.output(19), 400);
        due.is("26: 0 behind all", lantern.output(20), 0);
        due.is("26: all were READ", lantern.told(Programs.WAS_READ), 20);
        due.refused("4: full again", lantern, Programs.STATE, () -> lantern.give(1));
        due.is("26: the RECORD keeps none of what was given later", lantern.replay(0), 0);
        due.is("4: from 0 once more", lantern.give(5), 1);
    }

    private static void recordsWrittenOver() {
        Lantern lantern = Programs.counter();
        lantern.run(9);
        for (int place = 0; place < 3; place++) {
            due.is("25: place " + place, lantern.record(place), 9);
        }
        lantern.back(5);
        due.is("25: place 1 again", lantern.record(1), 4);
        due.is("26: place 1", lantern.replay(1), 4);
        due.is("26: place 0", lantern.replay(0), 9);
        due.is("26: place 2", lantern.replay(2), 9);
    }

    /** "START, and as many STEPS are done as it has, as long as it is READY". */
    private static void replayIsStart() {
        Lantern lantern = Programs.of(Programs.PUSH, 3, Programs.STORE, 0, Programs.HALT, 0);
        lantern.run(9);
        lantern.record(0);
        due.is("26: to HALT", lantern.replay(0), 3);
        int[] told = {2, 1, 3, 0, 0, 0, 0, 3, 8, -1};
        for (int what = 0; what < told.length; what++) {
            due.is("26: told " + what, lantern.told(what), told[what]);
        }
        due.is("26: done once since START", lantern.ofStep(1, 2), 1);
        lantern.rewrite(1, Programs.HALT, 0);
        due.is("26: HALTED ahead of its end", lantern.replay(0), 2);
        due.is("26: CELLS from START", lantern.cell(0), 0);
        lantern.rewrite(0, Programs.POP, 0);
        due.is("26: FAILED with the first", lantern.replay(0), 0);
        due.is("26: FAILED", lantern.told(Programs.STATUS), 2);
        due.stopped("26: FAILED", lantern, 8, -1);
        due.is("26: it counts as none", lantern.ofStep(0, 2), 0);
    }

    /** "the first place, from 0, at which the STEPS done are others". */
    private static void partsAtTheEnds() {
        Lantern lantern = new Lantern();
        for (int i = 0; i < 79; i++) {
            lantern.step(Programs.GO, (i + 1) % 79);
        }
        lantern.step(Programs.GO, 79);
        lantern.run(200);
        lantern.record(0);
        for (int place : new int[] {1, 2, 40, 78, 79}) {
            lantern.rewrite(place - 1, Programs.GO, 79);
            lantern.restart();
            lantern.run(place);
            due.is("27: the same up to " + place, lantern.parts(0), -1);
            lantern.run(1);
            due.is("27: others at " + place, lantern.parts(0), place);
            lantern.run(200 - place - 1);
            due.is("27: the first place counts", lantern.parts(0), place);
            lantern.back(200 - place);
            due.is("27: BACK to where they are the same", lantern.parts(0), -1);
            lantern.rewrite(place - 1, Programs.GO, place % 79);
        }
        lantern.restart();
        lantern.run(198);
        lantern.rewrite(40, Programs.GO, 79);
        lantern.run(1);
        due.is("27: 199 are the same", lantern.parts(0), -1);
        lantern.run(1);
        due.is("27: the last of 200", lantern.parts(0), 199);
    }

    /** "(0 if it is not READY now)", "as many as can be done". */
    private static void endsInWhereItIsNotReady() {
        Lantern halted = Programs.of(Programs.PUSH, 5, Programs.STORE, 1, Programs.HALT, 0);
        halted.run(9);
        due.is("28: HALTED", halted.endsIn(1), 0);
        due.is("28: HALTED, 500", halted.endsIn(500), 0);
        due.is("29: HALTED", halted.cellIn(1, 500), 5);
        due.is("29: HALTED, the CELL ahead", halted.cellIn(0, 1), 0);
        Lantern failed = Programs.of(Programs.PUSH, 5, Programs.STORE, 1, Programs.POP, 0);
        failed.run(9);
        due.is("28: FAILED", failed.endsIn(1), 0);
        due.is("28: FAILED, 500", failed.endsIn(500), 0);
        due.is("29: FAILED", failed.cellIn(1, 500), 5);
    }

    /** "-1 if so many would be done, and it is not HALTED then (also if the next one would FAIL)". */
    private static void endsInAtItsMost() {
        Lantern halts = Programs.of(Programs.HALT, 0);
        due.is("28: HALT with the only one", halts.endsIn(1), 1);
        Lantern fails = Programs.of(Programs.PUSH, 1);
        due.is("28: the next one would FAIL", fails.endsIn(1), -1);
        due.is("28: the next one FAILS", fails.endsIn(2), 1);
        Lantern at499 = Programs.behind(499, Programs.POP, 0);
        due.is("28: FAILS behind 499", at499.endsIn(500), 499);
        due.is("28: 499, and would FAIL", at499.endsIn(499), -1);
        Lantern at500 = Programs.behind(500, Programs.POP, 0);
        due.is("28: 500, and would FAIL", at500.endsIn(500), -1);
    }

    private static void cellInAtItsMost() {
        Lantern lantern = Programs.of(Programs.PUSH, 4, Programs.STORE, 0, Programs.PUSH, 5, Programs.STORE, 11,
            Programs.HALT, 0);
        int[] first = {0, 4, 4, 4, 4, 4};
        int[] last = {0, 0, 0, 5, 5, 5};
        for (int most = 1; most <= 6; most++) {
            due.is("29: CELL 0 behind " + most, lantern.cellIn(0, most), first[most - 1]);
            due.is("29: CELL 11 behind " + most, lantern.cellIn(11, most), last[most - 1]);
        }
        Lantern counter = Programs.counter();
        due.is("29: behind 500", counter.cellIn(0, 500), 100);
        due.is("29: behind 499", counter.cellIn(0, 499), 100);
        due.is("29: behind 498", counter.cellIn(0, 498), 99);
        Lantern full = Programs.pushing(24, 1, Programs.STORE, 3, Programs.PUSH, 2, Programs.PUSH, 2);
        due.is("29: up to a FAIL", full.cellIn(3, 500), 1);
        due.is("28: up to a FAIL", full.endsIn(500), 26);
    }

    /** "a place in the INPUT, from 0", "with that number there". */
    private static void outputWithEachPlace() {
        Lantern lantern = Programs.of(Programs.READ, 0, Programs.WRITE, 0, Programs.GO, 0);
        int sum = 0;
        for (int i = 0; i < 20; i++) {
            lantern.give(1 << i);
            sum += 1 << i;
        }
        for (int place = 0; place < 20; place++) {
            due.is("30: place " + place, lantern.outputWith(place, 0), sum - (1 << place));
        }
        due.is("30: the INPUT is as it was", lantern.outputWith(19, 1 << 19), sum);
        Lantern silent = Programs.of(Programs.HALT, 0);
        silent.give(9);
        due.is("30: nothing in the OUTPUT", silent.outputWith(0, MAX), 0);
        Lantern without = new Lantern();
        without.give(9);
        due.is("30: without STEPS", without.outputWith(0, MAX), 0);
    }

    private static void outputWithWrapsAround() {
        Lantern lantern = Programs.of(Programs.READ, 0, Programs.WRITE, 0, Programs.GO, 0);
        lantern.give(MAX);
        lantern.give(1);
        due.is("30: beyond the largest", lantern.outputWith(1, 1), MIN);
        due.is("30: just the largest", lantern.outputWith(1, 0), MAX);
        due.is("30: twice the largest", lantern.outputWith(1, MAX), -2);
        lantern.give(MIN);
        due.is("30: below the smallest", lantern.outputWith(0, -2), MAX);
        due.is("30: the smallest twice", lantern.outputWith(0, MIN), 1);
    }

    /** "behind 300 STEPS from START, or as many as can be done". */
    private static void outputWithin300() {
        int[] want = {41, 40, 40, 0};
        for (int ahead = 297; ahead <= 300; ahead++) {
            Lantern lantern = Programs.behind(ahead - 1, Programs.READ, 0, Programs.WRITE, 0, Programs.PUSH, 1,
                Programs.WRITE, 0);
            lantern.give(1);
            due.is("30: the first WRITE is STEP " + (ahead + 1), lantern.outputWith(0, 40), want[ahead - 297]);
            due.is("30: all of them", lantern.endsIn(500), ahead + 3);
        }
    }

    /** "from START": what was done, READ, stored and written so far does not count. */
    private static void outputFromStart() {
        Lantern lantern = Programs.of(Programs.LOAD, 0, Programs.WRITE, 0, Programs.READ, 0, Programs.TWICE, 0,
            Programs.STORE, 0, Programs.WRITE, 0, Programs.POP, 0);
        lantern.give(8);
        due.is("30: from START", lantern.outputWith(0, 3), 3);
        lantern.run(6);
        due.is("30: the OUTPUT so far", lantern.output(1), 8);
        due.is("30: from START, within", lantern.outputWith(0, 3), 3);
        lantern.run(9);
        due.is("30: FAILED", lantern.told(Programs.STATUS), 2);
        due.is("30: from START, FAILED", lantern.outputWith(0, 3), 3);
        due.is("30: the CELL stays", lantern.cell(0), 8);
    }

    /** "for each STEP that was done at least once, in the mean, not cut; 0 without any". */
    private static void heatIsNotCut() {
        Lantern lantern = Programs.of(Programs.GO, 1, Programs.GO, 2, Programs.GO, 1, Programs.HALT, 0);
        due.isNear("31: without any", lantern.heat(), 0.0);
        lantern.run(1);
        due.isNear("31: one", lantern.heat(), 1.0);
        lantern.run(3);
        due.isNear("31: four by three", lantern.heat(), 4.0 / 3.0);
        lantern.run(1);
        due.isNear("31: five by three", lantern.heat(), 5.0 / 3.0);
        lantern.back(5);
        due.isNear("31: BACK takes nothing away", lantern.heat(), 5.0 / 3.0);
        lantern.run(1);
        due.isNear("31: six by three", lantern.heat(), 2.0);
        lantern.restart();
        due.isNear("31: since START", lantern.heat(), 0.0);
        Lantern failed = Programs.of(Programs.POP, 0);
        failed.run(1);
        due.isNear("31: one with which it FAILED", failed.heat(), 0.0);
    }

    /** "A number d starts with 58068; for each of the following numbers x, d becomes d * 31 + x". */
    private static void digestOfNothing() {
        int[] told = {0, 0, 0, 0, 0, 0, 0, 0, 0, -1};
        List<Integer> numbers = new ArrayList<>();
        for (int it : told) {
            numbers.add(it);
        }
        for (int i = 0; i < 12 + 12 + 1; i++) {
            numbers.add(0);
        }
        due.is("32: of a new one", new Lantern().digest(), wrapped(numbers));
    }

    /** "which wraps around as a 64-bit integer": with numbers that have no end, cut to 64 bits at last. */
    private static void digestWrapsAround() {
        Lantern lantern = Programs.of(Programs.PUSH, MIN, Programs.PUSH, MAX, Programs.STORE, 11, Programs.CALL, 4,
            Programs.PUSH, -1, Programs.WRITE, 0, Programs.GO, 6);
        lantern.point(79, 99);
        lantern.turn(0, false, 98);
        int[][] byClock = {
            {0, 0, 0, 0, 0, 0, 0, 0, 0, -1}, {1, 0, 1, 1, 0, 0, 0, 1, 6, -1}, {2, 0, 2, 2, 0, 0, 0, 2, 6, -1},
            {3, 0, 3, 1, 0, 0, 0, 3, 6, -1}, {4, 0, 4, 1, 1, 0, 0, 4, 6, -1}, {5, 0, 5, 2, 1, 0, 0, 5, 6, -1},
            {6, 0, 6, 1, 1, 0, 1, 6, 6, -1}};
        int[] steps = {Programs.PUSH, MIN, Programs.PUSH, MAX, Programs.STORE, 11, Programs.CALL, 4,
            Programs.PUSH, -1, Programs.WRITE, 0, Programs.GO, 6};
        int[][] then = {{0, 0, 0}, {1, MIN, 0}, {2, MAX, 0}, {3, MIN, 0}, {4, MIN, 0}, {5, -1, 0}};
        int[][] stacks = {{}, {MIN}, {MAX, MIN}, {MIN}, {MIN}, {-1, MIN}, {MIN}};
        for (int clock = 0; clock < byClock.length; clock++) {
            List<Integer> numbers = new ArrayList<>();
            add(numbers, byClock[clock]);
            add(numbers, stacks[clock]);
            add(numbers, 0, 0, 0, 0, 0, 0, 0, 0, 0, 0, 0, clock >= 3 ? MAX : 0);
            add(numbers, clock >= 4 ? new int[] {4} : new int[0]);
            add(numbers, clock >= 6 ? new int[] {-1} : new int[0]);
            for (int step = 0; step < steps.length / 2; step++) {
                add(numbers, steps[2 * step], steps[2 * step + 1], step < clock ? 1 : 0);
            }
            add(numbers, 79, 0, 98, 0);
            add(numbers, 0, 0, 0, 0, 0, 0, 0, 0, 0, 0, 0, clock >= 3 ? clock - 2 : 0);
            add(numbers, clock >= 1 ? then[clock - 1] : new int[0]);
            add(numbers, clock >= 5 ? then[clock - 5] : new int[0]);
            add(numbers, -1);
            due.is("32: behind " + clock, lantern.digest(), wrapped(numbers));
            lantern.run(1);
        }
    }

    private static void add(List<Integer> numbers, int... more) {
        for (int it : more) {
            numbers.add(it);
        }
    }

    private static long wrapped(List<Integer> numbers) {
        BigInteger d = BigInteger.valueOf(58068);
        for (int x : numbers) {
            d = d.multiply(BigInteger.valueOf(31)).add(BigInteger.valueOf(x));
        }
        return d.longValue();
    }

    /** "An object is used for at most 512 calls": the last one of them, too, answers as it is due. */
    private static void usedFor512Calls() {
        Lantern lantern = Programs.of(Programs.GO, 0);
        for (int call = 2; call <= 509; call++) {
            due.is("11: call " + call, lantern.run(500), 500);
        }
        due.is("16: call 510", lantern.told(Programs.CLOCK), 254000);
        due.is("21: call 511", lantern.ofStep(0, 2), 254000);
        due.isNear("31: call 512", lantern.heat(), 254000.0);
    }
}
