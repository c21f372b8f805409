/** Promises 28 to 32. */
public final class WhatWouldBeTest {
    private static final Due due = new Due("WhatWouldBeTest");

    public static void main(String[] args) {
        endsIn();
        cellIn();
        outputWith();
        nothingIsChanged();
        heat();
        digest();
        refusals();
        due.end();
    }

    private static void endsIn() {
        Lantern halts = Programs.of(Programs.PUSH, 1, Programs.POP, 0, Programs.HALT, 0);
        due.is("28: halts with the last", halts.endsIn(3), 3);
        due.is("28: halts", halts.endsIn(500), 3);
        due.is("28: too few", halts.endsIn(2), -1);
        halts.run(9);
        due.is("28: halted", halts.endsIn(1), 0);
        Lantern fails = Programs.of(Programs.PUSH, 1, Programs.POP, 0, Programs.POP, 0);
        due.is("28: the next one fails", fails.endsIn(3), 2);
        due.is("28: so many, and the next one would fail", fails.endsIn(2), -1);
        fails.run(2);
        due.is("28: fails at once", fails.endsIn(1), 0);
        fails.run(1);
        due.is("28: failed", fails.endsIn(1), 0);
        due.is("28: never", Programs.counter().endsIn(500), -1);
        Lantern called = Programs.of(Programs.CALL, 2, Programs.HALT, 0, Programs.RETURN, 0);
        called.run(1);
        due.is("28: from within a frame", called.endsIn(9), 2);
        due.is("28: without steps", new Lantern().endsIn(1), 0);
    }

    private static void cellIn() {
        Lantern lantern = Programs.counter();
        due.is("29: 3", lantern.cellIn(0, 3), 0);
        due.is("29: 4", lantern.cellIn(0, 4), 1);
        due.is("29: 500", lantern.cellIn(0, 500), 100);
        lantern.run(4);
        due.is("29: from now on", lantern.cellIn(0, 5), 2);
        due.is("29: another cell", lantern.cellIn(11, 5), 0);
        lantern.rewrite(4, Programs.HALT, 0);
        due.is("29: as many as can be done", lantern.cellIn(0, 500), 1);
        Lantern reader = Programs.of(Programs.READ, 0, Programs.STORE, 1, Programs.GO, 0);
        reader.give(4);
        reader.give(6);
        reader.run(3);
        due.is("29: what is to be read", reader.cellIn(1, 3), 6);
        due.is("29: and behind it", reader.cellIn(1, 6), 0);
    }

    private static void outputWith() {
        Lantern lantern = Programs.of(Programs.READ, 0, Programs.WRITE, 0, Programs.GO, 0);
        lantern.give(4);
        lantern.give(6);
        lantern.run(7);
        due.is("30: another first", lantern.outputWith(0, 100), 106);
        due.is("30: another second", lantern.outputWith(1, -4), 0);
        due.is("30: wraps", lantern.outputWith(0, Integer.MAX_VALUE), Integer.MIN_VALUE + 5);
        due.is("30: the input is as it was", lantern.outputWith(0, 4), 10);
        Lantern slow = Programs.of(Programs.READ, 0, Programs.WRITE, 0, Programs.LOAD, 0, Programs.PUSH, 1,
            Programs.ADD, 0, Programs.TWICE, 0, Programs.STORE, 0, Programs.PUSH, 42, Programs.IS_SAME, 0,
            Programs.IF_NOT, 2, Programs.PUSH, 9, Programs.PUSH, 9, Programs.WRITE, 0, Programs.HALT, 0);
        slow.give(1);
        // 2 and 42 rounds of 8 are 338: the second number is not written within 300 steps.
        due.is("30: 300 steps and no more", slow.outputWith(0, 5), 5);
        slow.rewrite(7, Programs.PUSH, 37);
        // 2 + 37 * 8 + 2 = 300: the second number would be written by one step more.
        due.is("30: one step too late", slow.outputWith(0, 5), 5);
        slow.rewrite(11, Programs.WRITE, 0);
        due.is("30: with the last step", slow.outputWith(0, 5), 14);
    }

    private static void nothingIsChanged() {
        Lantern lantern = Programs.counter();
        lantern.give(5);
        lantern.point(2, 3);
        lantern.point(3, 0);
        lantern.watch(0, 0, 0);
        lantern.run(3);
        long before = Programs.seen(lantern);
        lantern.endsIn(500);
        lantern.cellIn(0, 500);
        lantern.outputWith(0, 9);
        lantern.heat();
        due.is("28 to 31: nothing is changed", Programs.seen(lantern), before);
        due.is("28: nothing is passed", lantern.ofPoint(0, 2), 2);
        due.is("28: nothing is counted", lantern.ofStep(0, 2), 1);
        due.is("28: the past", lantern.told(Programs.PAST), 3);
    }

    private static void heat() {
        Lantern lantern = Programs.counter();
        due.isNear("31: without any", lantern.heat(), 0.0);
        lantern.run(2);
        due.isNear("31: one each", lantern.heat(), 1.0);
        lantern.run(5);
        due.isNear("31: seven by five", lantern.heat(), 7.0 / 5.0);
        lantern.back(7);
        due.isNear("31: back takes nothing", lantern.heat(), 7.0 / 5.0);
        lantern.restart();
        due.isNear("31: behind start", lantern.heat(), 0.0);
    }

    /** The checksum is made here from the answers of the other calls. */
    private static void digest() {
        Lantern lantern = Programs.caller();
        due.is("32: at first", lantern.digest(), digestOf(lantern, 0));
        lantern.give(7);
        lantern.point(7, 2);
        lantern.point(1, 0);
        lantern.turn(0, false, 3);
        lantern.run(4);
        due.is("32: within", lantern.digest(), digestOf(lantern, 2));
        lantern.run(1);
        due.is("32: with five ago", lantern.digest(), digestOf(lantern, 2));
        lantern.run(99);
        lantern.run(99);
        due.is("32: at the end", lantern.digest(), digestOf(lantern, 2));
        Lantern counter = Programs.counter();
        counter.run(40);
        due.is("32: of the counter", counter.digest(), digestOf(counter, 0));
        for (int steps = 46; steps <= 52; steps++) {
            Lantern ends = new Lantern();
            for (int i = 1; i < steps; i++) {
                ends.step(Programs.GO, i);
            }
            ends.step(Programs.HALT, 0);
            due.is("32: to the end in " + steps, ends.digest(), digestOf(ends, 0));
        }
        due.is("32: of a new one", new Lantern().digest(), digestOf(new Lantern(), 0));
    }

    private static long digestOf(Lantern lantern, int points) {
        long[] d = {58068};
        for (int what = 0; what <= 9; what++) {
            mix(d, lantern.told(what));
        }
        for (int place = 0; place < lantern.told(Programs.ON_STACK); place++) {
            mix(d, lantern.stack(place));
        }
        for (int cell = 0; cell < 12; cell++) {
            mix(d, lantern.cell(cell));
        }
        for (int place = 0; place < lantern.told(Programs.FRAMES); place++) {
            mix(d, lantern.frame(place));
        }
        for (int place = 0; place < lantern.told(Programs.IN_OUTPUT); place++) {
            mix(d, lantern.output(place));
        }
        for (int step = 0; step < stepsOf(lantern); step++) {
            for (int what = 0; what <= 2; what++) {
                mix(d, lantern.ofStep(step, what));
            }
        }
        for (int point = 0; point < points; point++) {
            for (int what = 0; what <= 3; what++) {
                mix(d, lantern.ofPoint(point, what));
            }
        }
        for (int cell = 0; cell < 12; cell++) {
            mix(d, lantern.wroteAgo(cell));
        }
        for (int ago = 1; ago <= 5; ago += 4) {
            for (int what = 0; what <= 4 && ago <= lantern.told(Programs.PAST); what += 2) {
                mix(d, lantern.then(ago, what));
            }
        }
        mix(d, lantern.endsIn(50));
        return d[0];
    }

    private static void mix(long[] d, long x) {
        d[0] = d[0] * 31 + x;
    }

    private static int stepsOf(Lantern lantern) {
        for (int step = 0; step < 80; step++) {
            try {
                lantern.ofStep(step, 0);
            } catch (IndexOutOfBoundsException none) {
                return step;
            }
        }
        return 80;
    }

    private static void refusals() {
        Lantern lantern = Programs.counter();
        lantern.give(1);
        for (int most : new int[] {0, -1, 501, Integer.MIN_VALUE}) {
            due.refused("28: most " + most, lantern, Programs.ARGUMENT, () -> lantern.endsIn(most));
            due.refused("29: most " + most, lantern, Programs.ARGUMENT, () -> lantern.cellIn(0, most));
        }
        due.refused("29: cell -1", lantern, Programs.INDEX, () -> lantern.cellIn(-1, 1));
        due.refused("29: cell 12, index first", lantern, Programs.INDEX, () -> lantern.cellIn(12, 0));
        due.refused("30: place -1", lantern, Programs.INDEX, () -> lantern.outputWith(-1, 0));
        due.refused("30: place 1", lantern, Programs.INDEX, () -> lantern.outputWith(1, 0));
    }
}
