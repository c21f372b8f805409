import java.util.List;
import java.util.function.Supplier;

/**
 * Each call that a promise refuses: which exception comes, the one named first where several apply, and nothing
 * changes by it, in each of the objects made below.
 */
public final class RefusalsTest {
    private static final Due due = new Due("RefusalsTest");

    private static final int MIN = Integer.MIN_VALUE;
    private static final int MAX = Integer.MAX_VALUE;

    private final String name;
    private final Supplier<Lantern> made;
    private final int[] sizes;
    private final List<String> untouched;

    /** sizes: how many STEPS, in the INPUT, POINTS, on the STACK, FRAMES, in the OUTPUT, in the PAST. */
    private RefusalsTest(String name, Supplier<Lantern> made, int... sizes) {
        this.name = name;
        this.made = made;
        this.sizes = sizes;
        this.untouched = Probe.answersOf(made.get());
    }

    public static void main(String[] args) {
        RefusalsTest fresh = new RefusalsTest("new", Lantern::new, 0, 0, 0, 0, 0, 0, 0);
        RefusalsTest within = new RefusalsTest("within", RefusalsTest::within, 9, 2, 2, 2, 2, 0, 4);
        RefusalsTest halted = new RefusalsTest("halted", RefusalsTest::halted, 4, 1, 1, 0, 1, 1, 4);
        RefusalsTest failed = new RefusalsTest("failed", RefusalsTest::failed, 3, 1, 0, 0, 0, 0, 2);
        RefusalsTest full = new RefusalsTest("full", RefusalsTest::full, 80, 20, 6, 24, 8, 30, 200);
        RefusalsTest gone = new RefusalsTest("gone", RefusalsTest::gone, 5, 0, 0, 1, 0, 0, 0);
        for (RefusalsTest test : List.of(fresh, within, halted, failed, full, gone)) {
            test.program();
            test.pointsAndWatches();
            test.running();
            test.places();
            test.askingOfMany();
            test.records();
            test.wouldBe();
            test.asManyAsThereAre();
            test.lastOnesAreTaken();
        }
        fresh.whereNothingIs();
        within.whereSomethingIs();
        full.whereAllIsFull();
        gone.whereThePastIsGone();
        due.end();
    }

    // ---- the objects

    /** Two FRAMES deep, with two of most things. */
    private static Lantern within() {
        Lantern lantern = Programs.caller();
        lantern.give(7);
        lantern.give(4);
        lantern.point(7, 2);
        lantern.point(8, 0);
        lantern.condition(0, 3, 1, -5);
        lantern.condition(1, 1, 2, 9);
        lantern.watch(1, 1, 0);
        lantern.watch(2, 2, 6);
        lantern.run(3);
        lantern.record(1);
        lantern.run(2);
        lantern.back(1);
        return lantern;
    }

    private static Lantern halted() {
        Lantern lantern = Programs.of(Programs.CALL, 1, Programs.READ, 0, Programs.WRITE, 0, Programs.HALT, 0);
        lantern.give(6);
        lantern.point(2, 1);
        lantern.run(500);
        lantern.record(0);
        return lantern;
    }

    private static Lantern failed() {
        Lantern lantern = Programs.of(Programs.PUSH, 4, Programs.STORE, 11, Programs.POP, 0);
        lantern.give(6);
        lantern.watch(11, 0, 0);
        lantern.run(9);
        lantern.run(9);
        return lantern;
    }

    /** 80 STEPS, 24 on the STACK, 8 FRAMES, 30 in the OUTPUT, 20 in the INPUT, 6 POINTS, 4 WATCHES, 3 RECORDS. */
    private static Lantern full() {
        Lantern lantern = Programs.of(Programs.READ, 0, Programs.WRITE, 0, Programs.GO, 0);
        for (int i = 3; i < 80; i++) {
            lantern.step(Programs.PUSH, i);
        }
        for (int i = 0; i < 20; i++) {
            lantern.give(i * i + 1);
        }
        for (int place = 0; place < 3; place++) {
            lantern.run(30);
            lantern.record(place);
        }
        lantern.rewrite(0, Programs.CALL, 0);
        lantern.run(8);
        lantern.rewrite(0, Programs.PUSH, 5);
        lantern.rewrite(1, Programs.GO, 0);
        lantern.run(48);
        lantern.rewrite(0, Programs.STORE, 11);
        lantern.rewrite(1, Programs.PUSH, 8);
        lantern.run(99);
        for (int i = 0; i < 6; i++) {
            lantern.point(i % 3, i + 1);
            lantern.condition(i, i % 4, 11, 8);
        }
        for (int i = 0; i < 4; i++) {
            lantern.watch(i + 8, i % 3, 8);
        }
        return lantern;
    }

    /** The PAST does not begin at START any more, also when all that is left of it is taken BACK. */
    private static Lantern gone() {
        Lantern lantern = Programs.counter();
        lantern.record(1);
        lantern.run(201);
        lantern.back(200);
        return lantern;
    }

    private void fullIsFull() {
        Lantern lantern = made.get();
        int[] told = {0, 0, 245, 24, 8, 20, 30, 200, 6, -1};
        for (int what = 0; what < told.length; what++) {
            due.is("the full one, told " + what, lantern.told(what), told[what]);
        }
    }

    private void refused(String call, Class<? extends Exception> wanted, Probe.Call on) {
        String what = name + ": " + call;
        Lantern lantern = made.get();
        String got = Probe.answer(lantern, on);
        due.isSo(what + ": " + got + ", due is " + wanted.getSimpleName(), got.equals(wanted.getSimpleName()));
        List<String> touched = Probe.answersOf(lantern);
        for (int i = 0; i < untouched.size(); i++) {
            String is = touched.get(i);
            due.isSo(what + " changes " + is + " from " + untouched.get(i), is.equals(untouched.get(i)));
        }
    }

    // ---- refused by every object

    private void program() {
        for (int code : new int[] {MIN, -1, 23, MAX}) {
            refused("2: step " + code, Programs.ARGUMENT, it -> it.step(code, 0));
        }
        for (int code = Programs.LOAD; code <= Programs.CALL; code++) {
            int here = code;
            boolean isOfCell = code <= Programs.STORE;
            if (code == Programs.LOAD_AT || code == Programs.STORE_AT) {
                continue;
            }
            for (int n : new int[] {MIN, -1, isOfCell ? 12 : 81, MAX}) {
                refused("2: step " + code + " " + n, Programs.ARGUMENT, it -> it.step(here, n));
            }
        }
        for (int step : new int[] {MIN, -1, 80, 81, MAX}) {
            refused("3: rewrite " + step, Programs.INDEX, it -> it.rewrite(step, 0, 0));
            refused("3: rewrite " + step + ", and no code", Programs.INDEX, it -> it.rewrite(step, 23, 0));
            refused("3: rewrite " + step + ", and no CELL", Programs.INDEX, it -> it.rewrite(step, 13, 12));
        }
    }

    private void pointsAndWatches() {
        for (int step : new int[] {MIN, -1, 80, MAX}) {
            refused("6: point " + step, Programs.ARGUMENT, it -> it.point(step, 0));
            refused("6: point " + step + " 100", Programs.ARGUMENT, it -> it.point(step, 100));
        }
        for (int pass : new int[] {MIN, -1, 100, MAX}) {
            refused("6: point, pass " + pass, Programs.ARGUMENT, it -> it.point(0, pass));
        }
        for (int point : new int[] {MIN, -1, 6, 7, MAX}) {
            refused("7: condition " + point, Programs.INDEX, it -> it.condition(point, 0, 0, 0));
            refused("7: condition " + point + ", and no how", Programs.INDEX, it -> it.condition(point, 4, 0, 0));
            refused("7: condition " + point + ", and no CELL", Programs.INDEX, it -> it.condition(point, 1, 12, 0));
            refused("8: turn " + point, Programs.INDEX, it -> it.turn(point, true, 0));
            refused("8: turn " + point + ", and no pass", Programs.INDEX, it -> it.turn(point, false, 100));
        }
        for (int cell : new int[] {MIN, -1, 12, MAX}) {
            refused("9: watch " + cell, Programs.ARGUMENT, it -> it.watch(cell, 0, 0));
        }
        for (int kind : new int[] {MIN, -1, 3, MAX}) {
            refused("9: watch, kind " + kind, Programs.ARGUMENT, it -> it.watch(0, kind, 0));
        }
    }

    private void running() {
        for (int most : new int[] {MIN, -1, 0, 501, MAX}) {
            refused("11: run " + most, Programs.ARGUMENT, it -> it.run(most));
            refused("12: over " + most, Programs.ARGUMENT, it -> it.over(most));
            refused("13: out " + most, Programs.ARGUMENT, it -> it.out(most));
        }
        for (int many : new int[] {MIN, -1, 0, 201, MAX}) {
            refused("14: back " + many, Programs.ARGUMENT, it -> it.back(many));
        }
    }

    private void places() {
        for (int what : new int[] {MIN, -1, 10, MAX}) {
            refused("16: told " + what, Programs.ARGUMENT, it -> it.told(what));
        }
        for (int place : new int[] {MIN, -1, 24, 25, MAX}) {
            refused("17: stack " + place, Programs.INDEX, it -> it.stack(place));
        }
        for (int cell : new int[] {MIN, -1, 12, MAX}) {
            refused("18: cell " + cell, Programs.INDEX, it -> it.cell(cell));
            refused("24: wroteAgo " + cell, Programs.INDEX, it -> it.wroteAgo(cell));
        }
        for (int place : new int[] {MIN, -1, 8, 9, MAX}) {
            refused("19: frame " + place, Programs.INDEX, it -> it.frame(place));
        }
        for (int place : new int[] {MIN, -1, 30, 31, MAX}) {
            refused("20: output " + place, Programs.INDEX, it -> it.output(place));
        }
    }

    private void askingOfMany() {
        for (int step : new int[] {MIN, -1, 80, MAX}) {
            refused("21: ofStep " + step, Programs.INDEX, it -> it.ofStep(step, 0));
            refused("21: ofStep " + step + ", and no what", Programs.INDEX, it -> it.ofStep(step, 3));
        }
        for (int point : new int[] {MIN, -1, 6, MAX}) {
            refused("22: ofPoint " + point, Programs.INDEX, it -> it.ofPoint(point, 0));
            refused("22: ofPoint " + point + ", and no what", Programs.INDEX, it -> it.ofPoint(point, 4));
        }
        for (int ago : new int[] {MIN, -1, 201, 202, MAX}) {
            refused("23: then " + ago, Programs.INDEX, it -> it.then(ago, 0));
            refused("23: then " + ago + ", and no what", Programs.INDEX, it -> it.then(ago, 16));
        }
        for (int what : new int[] {MIN, -1, 16, MAX}) {
            refused("23: then 0, what " + what, Programs.ARGUMENT, it -> it.then(0, what));
        }
    }

    private void records() {
        for (int place : new int[] {MIN, -1, 3, MAX}) {
            refused("25: record " + place, Programs.INDEX, it -> it.record(place));
            refused("26: replay " + place, Programs.INDEX, it -> it.replay(place));
            refused("27: parts " + place, Programs.INDEX, it -> it.parts(place));
        }
    }

    private void wouldBe() {
        for (int most : new int[] {MIN, -1, 0, 501, MAX}) {
            refused("28: endsIn " + most, Programs.ARGUMENT, it -> it.endsIn(most));
            refused("29: cellIn, most " + most, Programs.ARGUMENT, it -> it.cellIn(11, most));
        }
        for (int cell : new int[] {MIN, -1, 12, MAX}) {
            refused("29: cellIn " + cell, Programs.INDEX, it -> it.cellIn(cell, 1));
            refused("29: cellIn " + cell + ", and no most", Programs.INDEX, it -> it.cellIn(cell, 501));
        }
        for (int place : new int[] {MIN, -1, 20, 21, MAX}) {
            refused("30: outputWith " + place, Programs.INDEX, it -> it.outputWith(place, 0));
        }
    }

    /** The first place behind those that there are is refused; the first and the last of them are taken. */
    private void asManyAsThereAre() {
        bounded("3: rewrite", sizes[0], (it, place) -> it.rewrite(place, 22, 0));
        bounded("21: ofStep", sizes[0], (it, place) -> it.ofStep(place, 2));
        bounded("30: outputWith", sizes[1], (it, place) -> it.outputWith(place, 3));
        bounded("7: condition", sizes[2], (it, place) -> it.condition(place, 0, 99, 0));
        bounded("8: turn", sizes[2], (it, place) -> it.turn(place, false, 99));
        bounded("22: ofPoint", sizes[2], (it, place) -> it.ofPoint(place, 3));
        bounded("17: stack", sizes[3], Lantern::stack);
        bounded("19: frame", sizes[4], Lantern::frame);
        bounded("20: output", sizes[5], Lantern::output);
        bounded("23: then", sizes[6] + 1, (it, place) -> it.then(place, 0));
        bounded("23: then", sizes[6] + 1, (it, place) -> it.then(place, 15));
    }

    private interface PlacedCall {
        long on(Lantern lantern, int place);
    }

    private void bounded(String call, int there, PlacedCall on) {
        refused(call + " " + there + " of as many", Programs.INDEX, it -> on.on(it, there));
        if (there > 0) {
            taken(call + " 0 of " + there, it -> on.on(it, 0));
            taken(call + " " + (there - 1) + " of " + there, it -> on.on(it, there - 1));
        }
    }

    private void taken(String call, Probe.Call on) {
        String got = Probe.answer(made.get(), on);
        due.isSo(name + ": " + call + ": " + got + ", due is an answer", !got.endsWith("Exception"));
    }

    // ---- taken by every object: the last ones on each side

    private void lastOnesAreTaken() {
        for (int most : new int[] {1, 500}) {
            taken("11: run " + most, it -> it.run(most));
            taken("12: over " + most, it -> it.over(most));
            taken("28: endsIn " + most, it -> it.endsIn(most));
            taken("29: cellIn 0 " + most, it -> it.cellIn(0, most));
            taken("29: cellIn 11 " + most, it -> it.cellIn(11, most));
        }
        for (int many : new int[] {1, 200}) {
            taken("14: back " + many, it -> it.back(many));
        }
        taken("15: backRun", Lantern::backRun);
        for (int what = 0; what <= 9; what++) {
            int here = what;
            taken("16: told " + what, it -> it.told(here));
        }
        for (int cell : new int[] {0, 11}) {
            taken("18: cell " + cell, it -> it.cell(cell));
            taken("24: wroteAgo " + cell, it -> it.wroteAgo(cell));
        }
        for (int what = 0; what <= 15; what++) {
            int here = what;
            taken("23: then 0 " + what, it -> it.then(0, here));
        }
        taken("31: heat", it -> (long) it.heat());
        taken("32: digest", Lantern::digest);
        taken("10: unwatch", Lantern::unwatch);
        taken("5: restart", Lantern::restart);
    }

    // ---- refused by one of the objects

    private void whereNothingIs() {
        refused("13: no FRAME", Programs.STATE, it -> it.out(1));
        refused("13: no FRAME, 500", Programs.STATE, it -> it.out(500));
        for (int place = 0; place < 3; place++) {
            int here = place;
            taken("25: record " + place, it -> it.record(here));
            refused("26: no RECORD " + place, Programs.STATE, it -> it.replay(here));
            refused("27: no RECORD " + place, Programs.STATE, it -> it.parts(here));
        }
        for (int pass : new int[] {0, 99}) {
            taken("6: point 0 " + pass, it -> it.point(0, pass));
            taken("6: point 79 " + pass, it -> it.point(79, pass));
        }
        for (int kind = 0; kind <= 2; kind++) {
            int here = kind;
            taken("9: watch 0 " + kind, it -> it.watch(0, here, MIN));
            taken("9: watch 11 " + kind, it -> it.watch(11, here, MAX));
        }
        for (int code = 0; code <= 22; code++) {
            int here = code;
            taken("2: step " + code + " 0", it -> it.step(here, 0));
            boolean isOfStep = code == Programs.GO || code == Programs.IF_NOT || code == Programs.CALL;
            boolean isOfCell = code == Programs.LOAD || code == Programs.STORE;
            int[] last = isOfStep ? new int[] {1, 80} : isOfCell ? new int[] {1, 11} : new int[] {MIN, -1, 81, MAX};
            for (int n : last) {
                taken("2: step " + code + " " + n, it -> it.step(here, n));
            }
        }
    }

    private void whereSomethingIs() {
        for (int code : new int[] {MIN, -1, 23, MAX}) {
            refused("3: rewrite, code " + code, Programs.ARGUMENT, it -> it.rewrite(0, code, 0));
        }
        for (int code : new int[] {Programs.LOAD, Programs.STORE}) {
            for (int n : new int[] {MIN, -1, 12, MAX}) {
                refused("3: rewrite, " + code + " " + n, Programs.ARGUMENT, it -> it.rewrite(8, code, n));
            }
            taken("3: rewrite, " + code + " 0", it -> it.rewrite(8, code, 0));
            taken("3: rewrite, " + code + " 11", it -> it.rewrite(8, code, 11));
        }
        for (int code : new int[] {Programs.GO, Programs.IF_NOT, Programs.CALL}) {
            for (int n : new int[] {MIN, -1, 81, MAX}) {
                refused("3: rewrite, " + code + " " + n, Programs.ARGUMENT, it -> it.rewrite(8, code, n));
            }
            taken("3: rewrite, " + code + " 0", it -> it.rewrite(8, code, 0));
            taken("3: rewrite, " + code + " 80", it -> it.rewrite(8, code, 80));
        }
        for (int n : new int[] {MIN, -1, 81, MAX}) {
            taken("3: rewrite, PUSH " + n, it -> it.rewrite(0, Programs.PUSH, n));
            taken("3: rewrite, HALT " + n, it -> it.rewrite(0, Programs.HALT, n));
        }
        argumentsOfPoints();
        argumentsOfAsking();
        refused("26: no RECORD 0", Programs.STATE, it -> it.replay(0));
        refused("27: no RECORD 2", Programs.STATE, it -> it.parts(2));
        taken("26: RECORD 1", it -> it.replay(1));
        taken("27: RECORD 1", it -> it.parts(1));
        taken("13: out 1", it -> it.out(1));
        taken("13: out 500", it -> it.out(500));
    }

    private void argumentsOfPoints() {
        for (int how : new int[] {MIN, -1, 4, MAX}) {
            refused("7: how " + how, Programs.ARGUMENT, it -> it.condition(1, how, 0, 0));
        }
        for (int how = 1; how <= 3; how++) {
            int here = how;
            for (int cell : new int[] {MIN, -1, 12, MAX}) {
                refused("7: how " + how + ", CELL " + cell, Programs.ARGUMENT, it -> it.condition(1, here, cell, 0));
                taken("7: none, CELL " + cell, it -> it.condition(1, 0, cell, cell));
            }
            taken("7: how " + how + ", CELL 0", it -> it.condition(1, here, 0, MIN));
            taken("7: how " + how + ", CELL 11", it -> it.condition(1, here, 11, MAX));
        }
        for (int pass : new int[] {MIN, -1, 100, MAX}) {
            refused("8: pass " + pass, Programs.ARGUMENT, it -> it.turn(0, false, pass));
        }
        taken("8: pass 0", it -> it.turn(0, false, 0));
        taken("8: pass 99", it -> it.turn(0, false, 99));
    }

    private void argumentsOfAsking() {
        for (int what : new int[] {MIN, -1, 3, MAX}) {
            refused("21: ofStep, what " + what, Programs.ARGUMENT, it -> it.ofStep(0, what));
        }
        for (int what : new int[] {MIN, -1, 4, MAX}) {
            refused("22: ofPoint, what " + what, Programs.ARGUMENT, it -> it.ofPoint(0, what));
        }
        for (int what : new int[] {MIN, -1, 16, MAX}) {
            refused("23: then, what " + what, Programs.ARGUMENT, it -> it.then(4, what));
        }
    }

    private void whereAllIsFull() {
        fullIsFull();
        refused("2: an 81st STEP", Programs.STATE, it -> it.step(0, 0));
        refused("4: a 21st number", Programs.STATE, it -> it.give(0));
        refused("6: a seventh POINT", Programs.STATE, it -> it.point(0, 0));
        refused("9: a fifth WATCH", Programs.STATE, it -> it.watch(0, 0, 0));
        taken("3: rewrite as often as one likes", it -> it.rewrite(79, 0, 0));
        taken("13: out", it -> it.out(1));
        for (int place = 0; place < 3; place++) {
            int here = place;
            refused("25: not from START", Programs.STATE, it -> it.record(here));
            refused("27: not from START", Programs.STATE, it -> it.parts(here));
            taken("26: replay all the same", it -> it.replay(here));
        }
    }

    private void whereThePastIsGone() {
        for (int place = 0; place < 3; place++) {
            int here = place;
            refused("25: gone for " + place, Programs.STATE, it -> it.record(here));
            refused("27: gone for " + place, Programs.STATE, it -> it.parts(here));
        }
        refused("25: gone, and no place", Programs.INDEX, it -> it.record(3));
        refused("27: gone, and no place", Programs.INDEX, it -> it.parts(3));
        refused("26: no RECORD", Programs.STATE, it -> it.replay(0));
        taken("26: replay all the same", it -> it.replay(1));
    }
}
