/** Promises 25 to 27. */
public final class RecordsTest {
    private static final Due due = new Due("RecordsTest");

    public static void main(String[] args) {
        recording();
        replaying();
        replayIsNoRun();
        replayEndsEarly();
        parting();
        refusals();
        due.end();
    }

    private static void recording() {
        Lantern lantern = Programs.counter();
        due.is("25: nothing done yet", lantern.record(2), 0);
        lantern.run(200);
        due.is("25: 200", lantern.record(0), 200);
        lantern.back(3);
        due.is("25: without what is back", lantern.record(0), 197);
        lantern.run(4);
        due.refused("25: 201", lantern, Programs.STATE, () -> lantern.record(0));
        due.is("25: the record stays", lantern.replay(0), 197);
        lantern.run(100);
        lantern.restart();
        lantern.run(4);
        due.is("25: start makes it possible", lantern.record(0), 4);
        due.is("25: of none", lantern.replay(2), 0);
        due.is("25: of none, clock", lantern.told(Programs.CLOCK), 0);
        due.is("25: of none, reason", lantern.told(Programs.REASON), 8);
    }

    private static void replaying() {
        Lantern lantern = Programs.caller();
        lantern.give(7);
        lantern.run(99);
        lantern.record(1);
        lantern.give(8);
        lantern.run(1);
        due.is("26: nine steps", lantern.replay(1), 9);
        due.is("26: reason", lantern.told(Programs.REASON), 8);
        due.is("26: cause", lantern.told(Programs.CAUSE), -1);
        due.is("26: clock", lantern.told(Programs.CLOCK), 9);
        due.is("26: past", lantern.told(Programs.PAST), 9);
        due.is("26: halted", lantern.told(Programs.STATUS), 1);
        due.is("26: output", lantern.output(0), 49);
        due.is("26: times from start", lantern.ofStep(0, 2), 1);
        due.refused("26: the input is that one", lantern, Programs.INDEX, () -> lantern.outputWith(1, 0));
        lantern.back(5);
        due.is("26: back", lantern.told(Programs.AT), 7);
        due.is("26: all of the record, not of the past", lantern.replay(1), 9);
    }

    private static void replayIsNoRun() {
        Lantern lantern = Programs.counter();
        lantern.run(20);
        lantern.record(0);
        lantern.point(2, 1);
        lantern.point(3, 0);
        lantern.watch(0, 0, 0);
        due.is("26: nothing stops it", lantern.replay(0), 20);
        due.is("26: nothing is passed", lantern.ofPoint(0, 2), 1);
        due.is("26: nothing is the cause", lantern.ofPoint(1, 3), 0);
        due.is("26: watches stay", lantern.unwatch(), 1);
    }

    private static void replayEndsEarly() {
        Lantern lantern = Programs.counter();
        lantern.run(20);
        lantern.record(0);
        lantern.rewrite(4, Programs.HALT, 0);
        due.is("26: halts", lantern.replay(0), 5);
        due.is("26: halted", lantern.told(Programs.STATUS), 1);
        due.is("26: reason is 8 still", lantern.told(Programs.REASON), 8);
        lantern.rewrite(4, Programs.POP, 0);
        due.is("26: fails", lantern.replay(0), 4);
        due.is("26: failed", lantern.told(Programs.STATUS), 2);
        lantern.rewrite(4, Programs.GO, 7);
        lantern.restart();
        lantern.run(5);
        due.is("25: up to where it would fail", lantern.record(1), 5);
        due.is("26: so far again", lantern.replay(1), 5);
        due.is("26: the next one is not tried", lantern.told(Programs.STATUS), 0);
    }

    private static void parting() {
        Lantern lantern = Programs.of(Programs.READ, 0, Programs.IF_NOT, 3, Programs.HALT, 0, Programs.GO, 0);
        lantern.give(0);
        lantern.give(5);
        lantern.run(99);
        due.is("25: six", lantern.record(0), 6);
        due.is("27: the same", lantern.parts(0), -1);
        lantern.back(3);
        due.is("27: the same as far as both go", lantern.parts(0), -1);
        lantern.restart();
        due.is("27: nothing done", lantern.parts(0), -1);
        lantern.rewrite(3, Programs.HALT, 0);
        lantern.run(99);
        due.is("27: by its numbers, not its codes", lantern.parts(0), -1);
        lantern.record(1);
        lantern.rewrite(1, Programs.POP, 0);
        lantern.restart();
        lantern.run(99);
        due.is("27: other at 2", lantern.parts(0), 2);
        due.is("27: other record, other at 2", lantern.parts(1), 2);
        lantern.rewrite(0, Programs.GO, 2);
        lantern.restart();
        lantern.run(99);
        due.is("27: other at 1", lantern.parts(0), 1);
        lantern.rewrite(0, Programs.PUSH, 0);
        lantern.rewrite(1, Programs.IF_NOT, 3);
        lantern.rewrite(3, Programs.GO, 0);
        lantern.restart();
        lantern.run(198);
        due.is("27: the record ends first", lantern.parts(1), -1);
        due.is("27: six the same, but the last", lantern.parts(0), 5);
        lantern.run(3);
        due.refused("27: gone", lantern, Programs.STATE, () -> lantern.parts(0));
    }

    private static void refusals() {
        Lantern lantern = Programs.counter();
        for (int place : new int[] {-1, 3, Integer.MIN_VALUE, Integer.MAX_VALUE}) {
            due.refused("25: place " + place, lantern, Programs.INDEX, () -> lantern.record(place));
            due.refused("26: place " + place, lantern, Programs.INDEX, () -> lantern.replay(place));
            due.refused("27: place " + place, lantern, Programs.INDEX, () -> lantern.parts(place));
        }
        for (int place = 0; place < 3; place++) {
            int here = place;
            due.refused("26: none in " + place, lantern, Programs.STATE, () -> lantern.replay(here));
            due.refused("27: none in " + place, lantern, Programs.STATE, () -> lantern.parts(here));
        }
        lantern.run(201);
        due.refused("25: index first", lantern, Programs.INDEX, () -> lantern.record(3));
        due.refused("27: index first", lantern, Programs.INDEX, () -> lantern.parts(3));
        due.refused("25: not from start", lantern, Programs.STATE, () -> lantern.record(0));
    }
}
