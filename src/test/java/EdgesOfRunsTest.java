/** The edges of "Terms" 2 (the PAST), 3 and 4, and of promises 11 to 15. */
public final class EdgesOfRunsTest {
    private static final Due due = new Due("EdgesOfRunsTest");

    private static final int MIN = Integer.MIN_VALUE;
    private static final int MAX = Integer.MAX_VALUE;
    private static final int[] NUMBERS = {MIN, MIN + 1, -1, 0, 1, MAX - 1, MAX};

    public static void main(String[] args) {
        pastUpTo200();
        goneDoesNotComeAgain();
        pastIsAsItWas();
        pastIsWhatWasDone();
        conditionsByNumbers();
        conditionsByCells();
        passesUpTo99();
        allThatAreHitAreAsked();
        whatIsNotHitIsNotAsked();
        pointWhereNoStepIs();
        watchesByNumbers();
        watchesByCells();
        theSmallestWatchCounts();
        haltIsAskedFirst();
        watchIsAskedSecond();
        goalIsAskedThird();
        pointIsAskedFourth();
        mostIsAskedLast();
        haltedOrFailedAheadOfAStep();
        upTo500Steps();
        overCalls();
        outOfFrames();
        backAsFarAsThereIs();
        backLeavesTheRest();
        backRunOneAtLeast();
        backRunInAFullPast();
        backRunAsksForTheNumbersThere();
        due.end();
    }

    /** "at most the latest 200 of them". */
    private static void pastUpTo200() {
        for (int steps : new int[] {0, 1, 199, 200, 201, 399, 400, 401}) {
            Lantern lantern = counterAt(steps);
            due.is("16: the PAST behind " + steps, lantern.told(Programs.PAST), Math.min(steps, 200));
            due.is("14: back as far as there is", lantern.back(200), Math.min(steps, 200));
            due.is("14: the PAST then", lantern.told(Programs.PAST), 0);
            due.is("14: the CLOCK then", lantern.told(Programs.CLOCK), Math.max(steps - 200, 0));
            due.areSame("14: the STATE then", stateOf(lantern), stateOf(counterAt(Math.max(steps - 200, 0))));
        }
    }

    private static Lantern counterAt(int steps) {
        Lantern lantern = Programs.counter();
        for (int i = 0; i < steps / 500; i++) {
            lantern.run(500);
        }
        if (steps % 500 > 0) {
            lantern.run(steps % 500);
        }
        return lantern;
    }

    /** The STATE without how large the PAST is, which depends on the way there. */
    private static long[] stateOf(Lantern lantern) {
        long[] shown = Programs.shown(lantern);
        shown[Programs.PAST] = 0;
        return shown;
    }

    /** "what is gone does not come again by going BACK". */
    private static void goneDoesNotComeAgain() {
        Lantern lantern = counterAt(201);
        due.is("back to the oldest", lantern.back(200), 200);
        due.is("what is gone does not come", lantern.back(1), 0);
        due.is("nor by backRun()", lantern.backRun(), 0);
        due.is("one STEP is gone", lantern.told(Programs.CLOCK), 1);
        Lantern again = counterAt(205);
        again.back(5);
        due.is("195 are left", again.told(Programs.PAST), 195);
        again.run(3);
        due.is("and 3 come", again.told(Programs.PAST), 198);
        due.is("no more", again.back(200), 198);
        due.is("five are gone", again.told(Programs.CLOCK), 5);
        due.areSame("the STATE behind five", stateOf(again), stateOf(counterAt(5)));
    }

    /** However often one goes forth and back, the STATE is that of its CLOCK. */
    private static void pastIsAsItWas() {
        Lantern lantern = counterAt(500);
        int[] ways = {-150, 100, -100, 177, -200, 33, -1, 200, -199, 2, -3, 401, -200, 60, -60};
        int clock = 500;
        for (int way : ways) {
            int went = way > 0 ? lantern.run(way) : -lantern.back(-way);
            clock += went;
            due.is("the CLOCK behind " + way, lantern.told(Programs.CLOCK), clock);
            due.areSame("the STATE behind " + way, stateOf(lantern), stateOf(counterAt(clock)));
        }
    }

    /** "with what was done by each of these, also if a STEP is written otherwise later". */
    private static void pastIsWhatWasDone() {
        Lantern lantern = Programs.of(Programs.PUSH, 5, Programs.PUSH, 6, Programs.STORE, 3, Programs.PUSH, 4,
            Programs.STORE_AT, 0, Programs.CALL, 6, Programs.HALT, 0);
        lantern.run(6);
        for (int step = 0; step < 6; step++) {
            lantern.rewrite(step, Programs.STORE, 9);
        }
        due.is("24: the STORE", lantern.wroteAgo(3), 4);
        due.is("24: the STORE AT", lantern.wroteAgo(4), 2);
        due.is("24: none into the new CELL", lantern.wroteAgo(9), 0);
        due.is("23: the CELL then", lantern.then(4, 3 + 4), 0);
        due.is("23: the CELL behind it", lantern.then(3, 3 + 4), 6);
        due.is("23: the STEP then", lantern.then(1, 0), 5);
        due.is("25: the STEPS", lantern.record(0), 6);
        due.is("27: the same STEPS", lantern.parts(0), -1);
        lantern.watch(3, 1, 0);
        due.is("15: to the STORE", lantern.backRun(), 4);
        due.is("15: the CELL", lantern.cell(3), 0);
        due.is("15: on top again", lantern.stack(0), 6);
        due.is("14: to START", lantern.back(200), 2);
        due.is("14: nothing on the STACK", lantern.told(Programs.ON_STACK), 0);
    }

    /** "that a CELL is less than, equal to, or greater than a number", "none at first". */
    private static void conditionsByNumbers() {
        for (int in : NUMBERS) {
            for (int n : NUMBERS) {
                due.is("none at " + in, stopsAt(0, in, n), 1);
                due.is(in + " less than " + n, stopsAt(1, in, n), (long) in < (long) n ? 1 : 0);
                due.is(in + " equal to " + n, stopsAt(2, in, n), (long) in == (long) n ? 1 : 0);
                due.is(in + " greater than " + n, stopsAt(3, in, n), (long) in > (long) n ? 1 : 0);
            }
        }
    }

    private static int stopsAt(int how, int in, int n) {
        Lantern lantern = Programs.of(Programs.PUSH, in, Programs.STORE, 5, Programs.HALT, 0);
        lantern.point(2, 0);
        due.is("7: none at first", lantern.condition(0, how, 5, n), 0);
        int stops = lantern.run(9) == 2 ? 1 : 0;
        due.stopped("7: " + how, lantern, stops == 1 ? 5 : 1, stops - 1);
        due.is("22: how often the CAUSE", lantern.ofPoint(0, 3), stops);
        return stops;
    }

    private static void conditionsByCells() {
        for (int cell = 0; cell < 12; cell++) {
            for (int asked = 0; asked < 12; asked++) {
                Lantern lantern = Programs.of(Programs.PUSH, 6, Programs.STORE, cell, Programs.HALT, 0);
                lantern.point(2, 0);
                lantern.condition(0, 2, asked, 6);
                lantern.run(9);
                due.stopped("7: CELL " + asked, lantern, asked == cell ? 5 : 1, asked == cell ? 0 : -1);
            }
        }
    }

    /** "if there are times to PASS, there is one less then, and it does not stop; otherwise it stops". */
    private static void passesUpTo99() {
        for (int pass : new int[] {0, 1, 2, 98, 99}) {
            Lantern lantern = Programs.of(Programs.GO, 0);
            lantern.point(0, pass);
            passes("6: point() with " + pass, lantern, pass);
            lantern.turn(0, true, pass);
            due.is("8: from now on", lantern.ofPoint(0, 2), pass);
            passes("8: turn() with " + pass, lantern, pass);
        }
    }

    private static void passes(String what, Lantern lantern, int pass) {
        int stops = lantern.ofPoint(0, 3);
        if (pass > 0) {
            due.is(what + ": all but one", lantern.run(pass), pass);
            due.stopped(what + ": does not stop", lantern, 6, -1);
            due.is(what + ": not the CAUSE", lantern.ofPoint(0, 3), stops);
        }
        due.is(what + ": none to PASS", lantern.ofPoint(0, 2), 0);
        due.is(what + ": stops", lantern.run(500), 1);
        due.stopped(what, lantern, 5, 0);
        due.is(what + ": the CAUSE", lantern.ofPoint(0, 3), stops + 1);
        due.is(what + ": none to PASS still", lantern.ofPoint(0, 2), 0);
    }

    /** "the smallest number; all that are HIT there are asked, also for times to PASS". */
    private static void allThatAreHitAreAsked() {
        for (int first = 0; first < 6; first++) {
            Lantern lantern = Programs.of(Programs.GO, 0);
            for (int point = 0; point < 6; point++) {
                lantern.point(0, point == first ? 0 : 9);
            }
            due.is("six at one STEP", lantern.run(500), 1);
            due.stopped("six at one STEP", lantern, 5, first);
            for (int point = 0; point < 6; point++) {
                due.is("to PASS of " + point, lantern.ofPoint(point, 2), point == first ? 0 : 8);
                due.is("the CAUSE " + point, lantern.ofPoint(point, 3), point == first ? 1 : 0);
            }
        }
        Lantern all = Programs.of(Programs.GO, 0);
        for (int point = 0; point < 6; point++) {
            all.point(0, 0);
        }
        all.run(500);
        due.stopped("all six stop", all, 5, 0);
        due.is("the second one is not the CAUSE", all.ofPoint(1, 3), 0);
    }

    /** "A POINT is HIT, if it is ON, it is at the STEP at which the STATE is, and READY, and its CONDITION holds". */
    private static void whatIsNotHitIsNotAsked() {
        Lantern lantern = Programs.of(Programs.PUSH, 1, Programs.POP, 0, Programs.GO, 0);
        lantern.point(1, 4);
        lantern.turn(0, false, 4);
        lantern.point(1, 4);
        lantern.condition(1, 2, 0, 1);
        lantern.point(3, 4);
        lantern.point(79, 4);
        lantern.run(30);
        due.stopped("none is HIT", lantern, 6, -1);
        for (int point = 0; point < 4; point++) {
            due.is("not HIT has nothing to PASS, " + point, lantern.ofPoint(point, 2), 4);
        }
        Lantern start = Programs.of(Programs.PUSH, 1, Programs.HALT, 0);
        start.point(0, 0);
        start.point(1, 1);
        due.is("the POINT at START is not asked", start.run(9), 2);
        due.stopped("passed, then HALTED", start, 1, -1);
        due.is("PASSED ahead of HALT alone", start.ofPoint(1, 2), 0);
        start.turn(1, true, 1);
        start.run(9);
        due.is("HALTED asks no POINT", start.ofPoint(1, 2), 1);
        Lantern halts = Programs.of(Programs.HALT, 0);
        halts.point(0, 1);
        halts.run(1);
        due.is("HALT at a POINT does not ask it", halts.ofPoint(0, 2), 1);
    }

    /** "(also if there is none)": a POINT stops where there is no STEP, READY, and it FAILS only then. */
    private static void pointWhereNoStepIs() {
        for (int step : new int[] {1, 79}) {
            Lantern lantern = Programs.of(Programs.GO, step);
            lantern.point(step, 1);
            due.is("one to PASS", lantern.run(1), 1);
            due.is("none to PASS then", lantern.ofPoint(0, 2), 0);
            lantern.back(1);
            due.is("stops at " + step, lantern.run(9), 1);
            due.stopped("stops at " + step, lantern, 5, 0);
            due.is("READY", lantern.told(Programs.STATUS), 0);
            due.is("then it FAILS", lantern.run(9), 0);
            due.stopped("then it FAILS", lantern, 2, -1);
            due.is("the POINT is not asked for that", lantern.ofPoint(0, 3), 1);
        }
    }

    /** "0 it becomes another one, 1 something is stored into it, 2 it becomes another one, and is a number then". */
    private static void watchesByNumbers() {
        for (int before : NUMBERS) {
            for (int behind : NUMBERS) {
                boolean isOther = before != behind;
                due.is(before + " to " + behind, isMet(before, behind, 0, before), isOther ? 1 : 0);
                due.is(before + " stored to " + behind, isMet(before, behind, 1, 7), 1);
                due.is(before + " to " + behind + ", that number", isMet(before, behind, 2, behind), isOther ? 1 : 0);
                due.is(before + " to " + behind + ", from it", isMet(before, behind, 2, before), 0);
                due.is(before + " to " + behind + ", another one", isMet(before, behind, 2, behind + 1), 0);
            }
        }
    }

    private static int isMet(int before, int behind, int kind, int n) {
        Lantern lantern = Programs.of(Programs.PUSH, before, Programs.STORE, 5, Programs.PUSH, behind,
            Programs.PUSH, 5, Programs.STORE_AT, 0, Programs.PUSH, 0, Programs.HALT, 0);
        lantern.run(4);
        lantern.watch(5, kind, n);
        int byStoreAt = lantern.run(9) == 1 ? 1 : 0;
        due.stopped("9: " + kind, lantern, byStoreAt == 1 ? 3 : 1, byStoreAt - 1);
        lantern.rewrite(3, Programs.PUSH, 0);
        lantern.rewrite(4, Programs.POP, 0);
        lantern.rewrite(5, Programs.STORE, 5);
        lantern.unwatch();
        lantern.restart();
        lantern.run(5);
        lantern.watch(5, kind, n);
        due.is("9: by STORE as by STORE AT", lantern.run(1), 1);
        due.stopped("9: " + kind + ", by STORE", lantern, byStoreAt == 1 ? 3 : 6, byStoreAt - 1);
        return byStoreAt;
    }

    private static void watchesByCells() {
        for (int cell = 0; cell < 12; cell++) {
            for (int watched = 0; watched < 12; watched++) {
                for (int kind = 0; kind <= 2; kind++) {
                    Lantern lantern = Programs.of(Programs.PUSH, 6, Programs.STORE, cell, Programs.LOAD, watched,
                        Programs.HALT, 0);
                    lantern.watch(watched, kind, 6);
                    boolean isMet = watched == cell;
                    due.is("9: CELL " + watched, lantern.run(9), isMet ? 2 : 4);
                    due.stopped("9: CELL " + watched, lantern, isMet ? 3 : 1, isMet ? 0 : -1);
                    due.is("9: a LOAD meets none", lantern.over(1), isMet ? 1 : 0);
                    due.is("9: so it is", lantern.told(Programs.REASON), isMet ? 4 : 1);
                }
            }
        }
    }

    /** "a WATCH is met by that STEP (3; the smallest number counts)". */
    private static void theSmallestWatchCounts() {
        for (int first = 0; first < 4; first++) {
            Lantern lantern = Programs.counter();
            for (int i = 0; i < 4; i++) {
                lantern.watch(i < first ? 7 : 0, i % 2, 0);
            }
            due.is("four WATCHES", lantern.run(9), 4);
            due.stopped("four WATCHES", lantern, 3, first);
            due.is("15: four WATCHES", lantern.backRun(), 1);
            due.stopped("15: four WATCHES", lantern, 3, first);
        }
    }

    /** "whether it is HALTED (it stops with 1)", ahead of goal, POINT and most. */
    private static void haltIsAskedFirst() {
        Lantern lantern = Programs.of(Programs.CALL, 2, Programs.HALT, 0, Programs.HALT, 0);
        lantern.point(2, 1);
        lantern.run(1);
        due.is("HALT behind the passing POINT", lantern.ofPoint(0, 2), 0);
        lantern.turn(0, true, 5);
        due.is("HALT is done", lantern.over(1), 1);
        due.stopped("HALT ahead of goal, POINT and most", lantern, 1, -1);
        due.is("the POINT was not asked", lantern.ofPoint(0, 2), 5);
        lantern.back(1);
        due.is("HALT by run(1)", lantern.run(1), 1);
        due.stopped("HALT ahead of most", lantern, 1, -1);
        lantern.back(1);
        due.is("HALT by out(1)", lantern.out(1), 1);
        due.stopped("HALT within a FRAME", lantern, 1, -1);
    }

    /** "a WATCH is met by that STEP (3)", ahead of goal, POINT and most. */
    private static void watchIsAskedSecond() {
        Lantern lantern = Programs.of(Programs.PUSH, 1, Programs.STORE, 0, Programs.HALT, 0);
        lantern.run(1);
        lantern.watch(0, 1, 0);
        lantern.point(2, 5);
        due.is("the STORE is done", lantern.over(1), 1);
        due.stopped("WATCH ahead of goal, POINT and most", lantern, 3, 0);
        due.is("the POINT was not asked", lantern.ofPoint(0, 2), 5);
        lantern.back(1);
        lantern.turn(0, true, 0);
        due.is("the STORE by run(1)", lantern.run(1), 1);
        due.stopped("WATCH ahead of POINT and most", lantern, 3, 0);
        due.is("the POINT is no CAUSE", lantern.ofPoint(0, 3), 0);
    }

    /** "the RUN is at its own goal (4)", ahead of POINT and most. */
    private static void goalIsAskedThird() {
        Lantern lantern = Programs.of(Programs.CALL, 2, Programs.HALT, 0, Programs.RETURN, 0);
        lantern.point(1, 0);
        due.is("12: CALL and RETURN", lantern.over(2), 2);
        due.stopped("12: goal ahead of POINT and most", lantern, 4, -1);
        lantern.back(1);
        due.is("13: RETURN", lantern.out(1), 1);
        due.stopped("13: goal ahead of POINT and most", lantern, 4, -1);
        lantern.back(1);
        due.is("12: RETURN is one STEP", lantern.over(1), 1);
        due.stopped("12: one STEP ahead of POINT and most", lantern, 4, -1);
        due.is("the POINT was never asked", lantern.ofPoint(0, 3), 0);
        lantern.back(1);
        due.is("11: a RUN without a goal", lantern.run(1), 1);
        due.stopped("11: a RUN without a goal", lantern, 5, 0);
    }

    /** "a POINT stops (5)", ahead of most; one that PASSES does not. */
    private static void pointIsAskedFourth() {
        Lantern lantern = Programs.of(Programs.GO, 0);
        lantern.point(0, 1);
        due.is("a POINT that PASSES", lantern.run(1), 1);
        due.stopped("a POINT that PASSES", lantern, 6, -1);
        due.is("a POINT that stops", lantern.run(1), 1);
        due.stopped("a POINT ahead of most", lantern, 5, 0);
    }

    /** "or as many STEPS are done as it may do (6)". */
    private static void mostIsAskedLast() {
        Lantern fails = Programs.of(Programs.PUSH, 1, Programs.STORE_AT, 0);
        due.is("as many as it may do", fails.run(1), 1);
        due.stopped("it is not looked ahead", fails, 6, -1);
        due.is("READY", fails.told(Programs.STATUS), 0);
        due.is("then it FAILS", fails.run(1), 0);
        due.stopped("then it FAILS", fails, 2, -1);
        Lantern within = Programs.of(Programs.CALL, 2, Programs.HALT, 0, Programs.POP, 0, Programs.RETURN, 0);
        due.is("over CALL with one STEP", within.over(1), 1);
        due.stopped("over CALL with one STEP", within, 6, -1);
        due.is("out, and FAILS", within.out(9), 0);
        due.stopped("out, and FAILS", within, 2, -1);
    }

    /** "If it is HALTED as one is to be done, it stops with 1, if it is FAILED, or FAILS with it, with 2." */
    private static void haltedOrFailedAheadOfAStep() {
        Lantern halted = Programs.of(Programs.CALL, 1, Programs.HALT, 0);
        halted.watch(0, 1, 0);
        halted.point(1, 0);
        halted.turn(0, false, 0);
        halted.run(9);
        halted.turn(0, true, 0);
        due.is("HALTED, run", halted.run(1), 0);
        due.stopped("HALTED, run", halted, 1, -1);
        due.is("HALTED, over", halted.over(500), 0);
        due.stopped("HALTED, over", halted, 1, -1);
        due.is("HALTED, out", halted.out(500), 0);
        due.stopped("HALTED, out", halted, 1, -1);
        Lantern failed = Programs.of(Programs.CALL, 1, Programs.POP, 0);
        failed.run(1);
        due.is("FAILS, over", failed.over(1), 0);
        due.stopped("FAILS, over", failed, 2, -1);
        due.is("FAILED, run", failed.run(1), 0);
        due.stopped("FAILED, run", failed, 2, -1);
        due.is("FAILED, out", failed.out(500), 0);
        due.stopped("FAILED, out", failed, 2, -1);
    }

    /** "most is not 1 to 500": 1 and 500 STEPS are done, and what HALTS with the 500th one HALTS. */
    private static void upTo500Steps() {
        Lantern ends = Programs.behind(499, Programs.HALT, 0);
        due.is("28: ends with 500", ends.endsIn(500), 500);
        due.is("28: not with 499", ends.endsIn(499), -1);
        due.is("11: ends with 500", ends.run(500), 500);
        due.stopped("11: ends with 500", ends, 1, -1);
        Lantern later = Programs.behind(500, Programs.HALT, 0);
        due.is("28: ends with 501", later.endsIn(500), -1);
        due.is("11: ends with 501", later.run(500), 500);
        due.stopped("11: ends with 501", later, 6, -1);
        due.is("11: one more", later.run(1), 1);
        due.stopped("11: one more", later, 1, -1);
        Lantern called = Programs.of(Programs.CALL, 1, Programs.GO, 1);
        due.is("12: 500", called.over(500), 500);
        due.stopped("12: 500", called, 6, -1);
        due.is("13: 500", called.out(500), 500);
        due.stopped("13: 500", called, 6, -1);
        due.is("13: 1", called.out(1), 1);
        due.is("16: all on the CLOCK", called.told(Programs.CLOCK), 1001);
    }

    /** "if that is CALL, that as many FRAMES are open again as there were". */
    private static void overCalls() {
        Lantern nested = Programs.nest(8);
        due.is("12: eight CALLS and RETURNS", nested.over(500), 16);
        due.stopped("12: eight CALLS and RETURNS", nested, 4, -1);
        due.is("12: behind the CALL", nested.told(Programs.AT), 1);
        for (int inner = 1; inner <= 7; inner++) {
            nested.restart();
            nested.run(inner);
            due.is("12: over the CALL " + inner, nested.over(500), 16 - 2 * inner);
            due.is("12: as many FRAMES again", nested.told(Programs.FRAMES), inner);
            due.stopped("12: over the CALL " + inner, nested, 4, -1);
        }
        nested.restart();
        due.is("12: one too few", nested.over(15), 15);
        due.stopped("12: one too few", nested, 6, -1);
        nested.restart();
        due.is("12: just as many", nested.over(16), 16);
        due.stopped("12: just as many", nested, 4, -1);
        Lantern ninth = Programs.of(Programs.CALL, 0);
        ninth.run(8);
        due.is("12: the ninth CALL", ninth.over(500), 0);
        due.stopped("12: the ninth CALL", ninth, 2, -1);
        Lantern deep = Programs.of(Programs.CALL, 0);
        due.is("12: CALLS without RETURN", deep.over(500), 8);
        due.stopped("12: CALLS without RETURN", deep, 2, -1);
    }

    /** "A RUN till there are fewer FRAMES than there were". */
    private static void outOfFrames() {
        Lantern nested = Programs.nest(8);
        nested.run(8);
        for (int frames = 7; frames >= 0; frames--) {
            due.is("13: a RETURN", nested.out(1), 1);
            due.stopped("13: a RETURN", nested, 4, -1);
            due.is("13: FRAMES", nested.told(Programs.FRAMES), frames);
        }
        due.refused("13: none is open", nested, Programs.STATE, () -> nested.out(500));
        nested.restart();
        nested.run(1);
        due.is("13: one too few", nested.out(14), 14);
        due.stopped("13: one too few", nested, 6, -1);
        nested.back(14);
        due.is("13: just as many", nested.out(15), 15);
        due.stopped("13: just as many", nested, 4, -1);
        nested.restart();
        nested.run(1);
        nested.point(1, 0);
        nested.out(15);
        due.stopped("13: a POINT at the goal is not asked", nested, 4, -1);
    }

    /** "as far as there is PAST (from FAILED, the first one is that ahead of the latest STEP done)". */
    private static void backAsFarAsThereIs() {
        Lantern lantern = Programs.of(Programs.PUSH, 7, Programs.POP, 0, Programs.POP, 0);
        due.is("14: none", lantern.back(1), 0);
        due.stopped("14: none", lantern, 7, -1);
        due.is("14: none of 200", lantern.back(200), 0);
        lantern.run(9);
        due.is("14: FAILED", lantern.told(Programs.STATUS), 2);
        due.is("14: one from FAILED", lantern.back(1), 1);
        int[] told = {1, 0, 1, 1, 0, 0, 0, 1, 7, -1};
        for (int what = 0; what < told.length; what++) {
            due.is("14: one from FAILED, told " + what, lantern.told(what), told[what]);
        }
        due.is("14: the STACK", lantern.stack(0), 7);
        due.is("14: more than there is", lantern.back(2), 1);
        due.is("14: at START", lantern.told(Programs.CLOCK), 0);
        lantern.run(2);
        due.is("14: just as many as there are", lantern.back(2), 2);
        Lantern failed = Programs.of(Programs.POP, 0);
        failed.run(1);
        due.is("14: FAILED without a PAST", failed.back(200), 0);
        due.stopped("14: FAILED without a PAST", failed, 7, -1);
        due.is("14: FAILED still", failed.told(Programs.STATUS), 2);
        due.is("15: FAILED without a PAST", failed.backRun(), 0);
        due.stopped("15: FAILED without a PAST", failed, 7, -1);
        due.is("15: FAILED still", failed.told(Programs.STATUS), 2);
        due.is("14: nothing is done from there", failed.run(1), 0);
    }

    /** "POINTS, WATCHES, RECORDS, how often STEPS were done, and which PASS, stay." */
    private static void backLeavesTheRest() {
        Lantern lantern = Programs.counter();
        lantern.point(1, 2);
        lantern.point(3, 0);
        lantern.watch(11, 1, 0);
        lantern.record(2);
        lantern.run(500);
        due.stopped("14: at the POINT", lantern, 5, 1);
        due.is("14: as far as there is", lantern.back(200), 3);
        due.is("14: what was PASSED", lantern.ofPoint(0, 2), 1);
        due.is("14: which were the CAUSE", lantern.ofPoint(1, 3), 1);
        due.is("14: how often a STEP was done", lantern.ofStep(2, 2), 1);
        due.is("14: the RECORD", lantern.parts(2), -1);
        due.is("14: the WATCH", lantern.unwatch(), 1);
        due.is("14: heat", (long) (lantern.heat() * 1000), 1000);
    }

    /** "Goes BACK, one STATE at least, till it is at the STEP of a POINT". */
    private static void backRunOneAtLeast() {
        Lantern lantern = Programs.of(Programs.GO, 0);
        due.is("15: no PAST", lantern.backRun(), 0);
        due.stopped("15: no PAST", lantern, 7, -1);
        lantern.point(0, 0);
        due.is("15: no PAST at a POINT", lantern.backRun(), 0);
        due.stopped("15: no PAST at a POINT", lantern, 7, -1);
        lantern.run(1);
        lantern.run(1);
        due.is("15: at a POINT, and to the next", lantern.backRun(), 1);
        due.stopped("15: at a POINT, and to the next", lantern, 5, 0);
        due.is("15: to START", lantern.backRun(), 1);
        due.stopped("15: to START, where a POINT is", lantern, 5, 0);
        due.is("15: the POINT was the CAUSE of a RUN", lantern.ofPoint(0, 3), 2);
        lantern.turn(0, true, 99);
        lantern.run(9);
        due.is("15: whatever it has to PASS", lantern.backRun(), 1);
        due.is("15: nothing is PASSED", lantern.ofPoint(0, 2), 90);
        lantern.turn(0, false, 0);
        due.is("15: not ON", lantern.backRun(), 8);
        due.stopped("15: not ON", lantern, 7, -1);
    }

    /** The oldest STATE of a PAST of 200 is asked, and the one that is gone is not. */
    private static void backRunInAFullPast() {
        Lantern lantern = Programs.of(Programs.PUSH, 1, Programs.STORE, 0, Programs.GO, 2);
        lantern.point(0, 0);
        lantern.run(200);
        due.is("15: to START, 200 ago", lantern.backRun(), 200);
        due.stopped("15: to START, 200 ago", lantern, 5, 0);
        lantern.run(201);
        due.is("15: START is gone", lantern.backRun(), 200);
        due.stopped("15: START is gone", lantern, 7, -1);
        lantern.restart();
        lantern.watch(0, 2, 99);
        lantern.run(201);
        due.is("15: the CELL, 200 ago", lantern.backRun(), 200);
        due.stopped("15: the CELL, 200 ago", lantern, 3, 0);
        lantern.run(201);
        due.is("15: the STORE is gone", lantern.backRun(), 200);
        due.stopped("15: the STORE is gone", lantern, 7, -1);
        due.is("15: the CELL stays", lantern.cell(0), 1);
    }

    /** "whose CONDITION holds there": the CELL is asked as it was in that STATE. */
    private static void backRunAsksForTheNumbersThere() {
        Lantern lantern = Programs.counter();
        lantern.run(50);
        due.is("the CELL", lantern.cell(0), 10);
        lantern.point(3, 0);
        lantern.condition(0, 2, 0, 9);
        due.is("15: equal to 9, ahead of the STORE", lantern.backRun(), 2);
        due.is("15: the CELL there", lantern.cell(0), 9);
        lantern.condition(0, 1, 0, 4);
        due.is("15: less than 4", lantern.backRun(), 30);
        due.is("15: the CELL then", lantern.cell(0), 3);
        lantern.condition(0, 3, 0, 3);
        due.is("15: greater than 3 is nowhere", lantern.backRun(), 18);
        due.stopped("15: greater than 3 is nowhere", lantern, 7, -1);
    }
}
