/** Promises 16 to 24. */
public final class AskingTest {
    private static final Due due = new Due("AskingTest");

    public static void main(String[] args) {
        told();
        stackAndFrames();
        cellsAndOutput();
        ofStep();
        ofPoint();
        then();
        thenFarAgo();
        wroteAgo();
        due.end();
    }

    private static void told() {
        Lantern lantern = Programs.caller();
        lantern.give(7);
        lantern.watch(0, 0, 0);
        lantern.point(7, 0);
        lantern.run(99);
        int[] want = {7, 0, 4, 2, 2, 1, 0, 4, 5, 0};
        for (int what = 0; what < want.length; what++) {
            due.is("16: told " + what, lantern.told(what), want[what]);
        }
        lantern.run(99);
        int[] ended = {2, 1, 9, 0, 0, 1, 1, 9, 1, -1};
        for (int what = 0; what < ended.length; what++) {
            due.is("16: told at the end " + what, lantern.told(what), ended[what]);
        }
        due.refused("16: -1", lantern, Programs.ARGUMENT, () -> lantern.told(-1));
        due.refused("16: 10", lantern, Programs.ARGUMENT, () -> lantern.told(10));
    }

    private static void stackAndFrames() {
        Lantern lantern = Programs.caller();
        lantern.give(7);
        due.refused("17: an empty stack", lantern, Programs.INDEX, () -> lantern.stack(0));
        due.refused("19: no frame", lantern, Programs.INDEX, () -> lantern.frame(0));
        lantern.run(4);
        lantern.rewrite(6, Programs.PUSH, 3);
        lantern.back(1);
        lantern.run(1);
        due.is("17: top", lantern.stack(0), 3);
        due.is("17: below", lantern.stack(1), 7);
        due.is("19: opened last", lantern.frame(0), 5);
        due.is("19: opened first", lantern.frame(1), 1);
        for (int place : new int[] {2, -1, Integer.MIN_VALUE, Integer.MAX_VALUE}) {
            due.refused("17: " + place, lantern, Programs.INDEX, () -> lantern.stack(place));
            due.refused("19: " + place, lantern, Programs.INDEX, () -> lantern.frame(place));
        }
    }

    private static void cellsAndOutput() {
        Lantern lantern = Programs.of(Programs.PUSH, 5, Programs.STORE, 11, Programs.PUSH, 8, Programs.WRITE, 0,
            Programs.LOAD, 11, Programs.WRITE, 0);
        due.refused("20: none", lantern, Programs.INDEX, () -> lantern.output(0));
        lantern.run(6);
        due.is("18: cell 11", lantern.cell(11), 5);
        due.is("18: cell 0", lantern.cell(0), 0);
        due.is("20: first", lantern.output(0), 8);
        due.is("20: second", lantern.output(1), 5);
        due.refused("18: 12", lantern, Programs.INDEX, () -> lantern.cell(12));
        due.refused("18: -1", lantern, Programs.INDEX, () -> lantern.cell(-1));
        due.refused("20: 2", lantern, Programs.INDEX, () -> lantern.output(2));
        due.refused("20: -1", lantern, Programs.INDEX, () -> lantern.output(-1));
    }

    private static void ofStep() {
        Lantern lantern = Programs.counter();
        lantern.run(7);
        due.is("21: code", lantern.ofStep(3, 0), Programs.STORE);
        due.is("21: number", lantern.ofStep(1, 1), 1);
        due.is("21: how often", lantern.ofStep(1, 2), 2);
        due.is("21: how often the third", lantern.ofStep(2, 2), 1);
        lantern.back(7);
        due.is("21: back takes nothing", lantern.ofStep(1, 2), 2);
        lantern.rewrite(1, Programs.PUSH, 44);
        due.is("21: rewrite takes nothing", lantern.ofStep(1, 2), 2);
        due.is("21: new number", lantern.ofStep(1, 1), 44);
        due.refused("21: step 5", lantern, Programs.INDEX, () -> lantern.ofStep(5, 0));
        due.refused("21: step -1", lantern, Programs.INDEX, () -> lantern.ofStep(-1, 3));
        due.refused("21: what 3", lantern, Programs.ARGUMENT, () -> lantern.ofStep(0, 3));
        due.refused("21: what -1", lantern, Programs.ARGUMENT, () -> lantern.ofStep(0, -1));
    }

    private static void ofPoint() {
        Lantern lantern = Programs.counter();
        lantern.point(4, 1);
        due.is("22: step", lantern.ofPoint(0, 0), 4);
        due.is("22: on", lantern.ofPoint(0, 1), 1);
        due.is("22: pass", lantern.ofPoint(0, 2), 1);
        lantern.run(50);
        due.is("22: passed", lantern.ofPoint(0, 2), 0);
        due.is("22: cause", lantern.ofPoint(0, 3), 1);
        lantern.turn(0, false, 3);
        due.is("22: off", lantern.ofPoint(0, 1), 0);
        due.is("22: pass from now on", lantern.ofPoint(0, 2), 3);
        due.refused("22: point 1", lantern, Programs.INDEX, () -> lantern.ofPoint(1, 4));
        due.refused("22: point -1", lantern, Programs.INDEX, () -> lantern.ofPoint(-1, 0));
        due.refused("22: what 4", lantern, Programs.ARGUMENT, () -> lantern.ofPoint(0, 4));
        due.refused("22: what -1", lantern, Programs.ARGUMENT, () -> lantern.ofPoint(0, -1));
    }

    private static void then() {
        Lantern lantern = Programs.caller();
        lantern.give(7);
        due.is("23: now, without any", lantern.then(0, 2), 0);
        lantern.run(4);
        int[][] want = {{7, 2, 7, 2}, {6, 1, 7, 2}, {4, 1, 7, 1}, {3, 0, 0, 1}, {0, 0, 0, 0}};
        for (int ago = 0; ago < want.length; ago++) {
            for (int what = 0; what < 4; what++) {
                due.is("23: " + ago + " ago " + what, lantern.then(ago, what), want[ago][what]);
            }
        }
        due.refused("23: ago 5", lantern, Programs.INDEX, () -> lantern.then(5, 16));
        due.refused("23: ago -1", lantern, Programs.INDEX, () -> lantern.then(-1, 0));
        due.refused("23: what 16", lantern, Programs.ARGUMENT, () -> lantern.then(0, 16));
        due.refused("23: what -1", lantern, Programs.ARGUMENT, () -> lantern.then(4, -1));
    }

    private static void thenFarAgo() {
        Lantern lantern = Programs.counter();
        lantern.run(500);
        lantern.run(3);
        due.is("23: now", lantern.then(0, 4), 100);
        due.is("23: 3 ago", lantern.then(3, 4), 100);
        due.is("23: 4 ago", lantern.then(4, 4), 100);
        due.is("23: 5 ago", lantern.then(5, 4), 99);
        due.is("23: 200 ago", lantern.then(200, 4), 60);
        due.is("23: 200 ago, at", lantern.then(200, 0), 3);
        due.refused("23: 201 ago", lantern, Programs.INDEX, () -> lantern.then(201, 0));
        lantern.run(1);
        due.is("23: 1 ago, ahead of a store", lantern.then(1, 4), 100);
        due.is("23: 0 ago, behind it", lantern.then(0, 4), 101);
        lantern.back(1);
        due.is("23: another cell", lantern.then(199, 15), 0);
        due.refused("23: 200 ago, when one is back", lantern, Programs.INDEX, () -> lantern.then(200, 0));
        lantern.back(149);
        due.is("23: 50 ago", lantern.then(50, 4), 61);
        due.refused("23: 51 ago", lantern, Programs.INDEX, () -> lantern.then(51, 0));
    }

    private static void wroteAgo() {
        Lantern lantern = Programs.of(Programs.PUSH, 0, Programs.STORE, 3, Programs.PUSH, 6, Programs.PUSH, 4,
            Programs.STORE_AT, 0, Programs.PUSH, 1);
        lantern.run(2);
        due.is("24: the latest, of the same number", lantern.wroteAgo(3), 1);
        lantern.run(4);
        due.is("24: STORE AT", lantern.wroteAgo(4), 2);
        due.is("24: STORE", lantern.wroteAgo(3), 5);
        due.is("24: nothing", lantern.wroteAgo(0), 0);
        lantern.back(4);
        due.is("24: by the past", lantern.wroteAgo(4), 0);
        due.is("24: one ago again", lantern.wroteAgo(3), 1);
        due.refused("24: -1", lantern, Programs.INDEX, () -> lantern.wroteAgo(-1));
        due.refused("24: 12", lantern, Programs.INDEX, () -> lantern.wroteAgo(12));
        Lantern far = Programs.of(Programs.PUSH, 1, Programs.STORE, 5, Programs.GO, 2);
        far.run(201);
        due.is("24: 200 ago", far.wroteAgo(5), 200);
        far.run(1);
        due.is("24: gone from the past", far.wroteAgo(5), 0);
    }
}
