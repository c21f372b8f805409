/** Promises 6 to 10. */
public final class PointsTest {
    private static final Due due = new Due("PointsTest");

    public static void main(String[] args) {
        adding();
        addingRefused();
        passing();
        everyHitIsAsked();
        conditions();
        conditionsRefused();
        turning();
        watching();
        watchingRefused();
        watchesAndWhatIsBehind();
        unwatching();
        asManyAsThereCanBe();
        due.end();
    }

    private static void adding() {
        Lantern lantern = Programs.counter();
        due.is("6: first", lantern.point(0, 0), 0);
        due.is("6: its step need not be there", lantern.point(79, 99), 1);
        due.is("6: its step", lantern.ofPoint(1, 0), 79);
        due.is("6: it is on", lantern.ofPoint(1, 1), 1);
        due.is("6: its pass", lantern.ofPoint(1, 2), 99);
        due.is("6: it was no cause", lantern.ofPoint(1, 3), 0);
        due.is("6: not asked ahead of the first step", lantern.run(100), 5);
        due.stopped("6: behind a round", lantern, 5, 0);
        due.is("6: counted", lantern.ofPoint(0, 3), 1);
        due.is("6: behind the next round", lantern.run(100), 5);
        due.is("6: counted again", lantern.ofPoint(0, 3), 2);
        Lantern end = Programs.of(Programs.PUSH, 1);
        end.point(1, 0);
        due.is("6: stops where no step is", end.run(100), 1);
        due.stopped("6: where no step is", end, 5, 0);
        due.is("6: ready there", end.told(Programs.STATUS), 0);
    }

    private static void addingRefused() {
        Lantern lantern = Programs.counter();
        due.refused("6: step -1", lantern, Programs.ARGUMENT, () -> lantern.point(-1, 0));
        due.refused("6: step 80", lantern, Programs.ARGUMENT, () -> lantern.point(80, 0));
        due.refused("6: pass -1", lantern, Programs.ARGUMENT, () -> lantern.point(0, -1));
        due.refused("6: pass 100", lantern, Programs.ARGUMENT, () -> lantern.point(0, 100));
        for (int i = 0; i < 6; i++) {
            due.is("6: point " + i, lantern.point(i, i), i);
        }
        due.refused("6: a seventh", lantern, Programs.STATE, () -> lantern.point(0, 0));
        due.refused("6: argument first", lantern, Programs.ARGUMENT, () -> lantern.point(80, 0));
    }

    private static void passing() {
        Lantern lantern = Programs.counter();
        lantern.point(2, 2);
        due.is("6: passes twice", lantern.run(100), 12);
        due.is("6: none to pass then", lantern.ofPoint(0, 2), 0);
        due.is("6: passing is no cause", lantern.ofPoint(0, 3), 1);
        due.is("6: stops from then on", lantern.run(100), 5);
    }

    private static void everyHitIsAsked() {
        Lantern lantern = Programs.counter();
        lantern.point(1, 1);
        lantern.point(1, 0);
        lantern.point(1, 0);
        lantern.point(1, 3);
        due.is("6: the smallest that stops", lantern.run(100), 1);
        due.stopped("6: of four at a step", lantern, 5, 1);
        due.is("6: the first has passed", lantern.ofPoint(0, 2), 0);
        due.is("6: the last has passed, too", lantern.ofPoint(3, 2), 2);
        due.is("6: another one is no cause", lantern.ofPoint(2, 3), 0);
        lantern.run(100);
        due.stopped("6: now the first", lantern, 5, 0);
        due.is("6: the last passes again", lantern.ofPoint(3, 2), 1);
    }

    private static void conditions() {
        Lantern lantern = Programs.counter();
        lantern.point(4, 1);
        due.is("7: none before", lantern.condition(0, 3, 0, 3), 0);
        due.is("7: above 3, and one to pass", lantern.run(100), 24);
        due.is("7: is 5 there", lantern.cell(0), 5);
        due.is("7: above before", lantern.condition(0, 2, 0, 7), 3);
        lantern.run(100);
        due.is("7: equal to 7", lantern.cell(0), 7);
        due.is("7: equal before", lantern.condition(0, 1, 0, 9), 2);
        lantern.run(100);
        due.is("7: less than 9", lantern.cell(0), 8);
        lantern.run(100);
        due.stopped("7: never less again", lantern, 6, -1);
        due.is("7: less before", lantern.condition(0, 0, 999, 5), 1);
        due.is("7: without any it stops", lantern.run(100), 5);
        lantern.turn(0, true, 1);
        lantern.condition(0, 2, 0, -1);
        lantern.run(50);
        due.is("7: what does not hold has nothing to pass", lantern.ofPoint(0, 2), 1);
        due.is("7: cell 11", lantern.condition(0, 1, 11, 1), 2);
        lantern.turn(0, true, 0);
        lantern.run(50);
        due.stopped("7: cell 11 is less than 1", lantern, 5, 0);
        lantern.condition(0, 1, 11, 0);
        lantern.run(50);
        due.stopped("7: 0 is not less than 0", lantern, 6, -1);
        lantern.condition(0, 3, 11, 0);
        lantern.run(50);
        due.stopped("7: 0 is not above 0", lantern, 6, -1);
    }

    private static void conditionsRefused() {
        Lantern lantern = Programs.counter();
        due.refused("7: no point", lantern, Programs.INDEX, () -> lantern.condition(0, 0, 0, 0));
        lantern.point(0, 0);
        due.refused("7: point 1", lantern, Programs.INDEX, () -> lantern.condition(1, 4, 0, 0));
        due.refused("7: point -1", lantern, Programs.INDEX, () -> lantern.condition(-1, 0, 0, 0));
        due.refused("7: how -1", lantern, Programs.ARGUMENT, () -> lantern.condition(0, -1, 0, 0));
        due.refused("7: how 4", lantern, Programs.ARGUMENT, () -> lantern.condition(0, 4, 0, 0));
        due.refused("7: cell 12", lantern, Programs.ARGUMENT, () -> lantern.condition(0, 1, 12, 0));
        due.refused("7: cell -1", lantern, Programs.ARGUMENT, () -> lantern.condition(0, 3, -1, 0));
        due.is("7: none still", lantern.condition(0, 0, 0, 0), 0);
    }

    private static void turning() {
        Lantern lantern = Programs.counter();
        lantern.point(3, 5);
        lantern.run(10);
        due.is("8: to pass still", lantern.turn(0, false, 7), 3);
        due.is("8: off", lantern.ofPoint(0, 1), 0);
        lantern.run(50);
        due.stopped("8: off does not stop", lantern, 6, -1);
        due.is("8: off has nothing to pass", lantern.turn(0, true, 0), 7);
        lantern.run(50);
        due.stopped("8: on again", lantern, 5, 0);
        due.refused("8: point 1", lantern, Programs.INDEX, () -> lantern.turn(1, true, 100));
        due.refused("8: point -1", lantern, Programs.INDEX, () -> lantern.turn(-1, true, 0));
        due.refused("8: pass 100", lantern, Programs.ARGUMENT, () -> lantern.turn(0, false, 100));
        due.refused("8: pass -1", lantern, Programs.ARGUMENT, () -> lantern.turn(0, false, -1));
        due.is("8: pass 99", lantern.turn(0, true, 99), 0);
    }

    private static void watching() {
        Lantern lantern = Programs.of(Programs.PUSH, 0, Programs.STORE, 3, Programs.PUSH, 6, Programs.STORE, 3,
            Programs.PUSH, 6, Programs.STORE, 3, Programs.PUSH, 9, Programs.PUSH, 3, Programs.STORE_AT, 0,
            Programs.HALT, 0);
        due.is("9: kind 0", lantern.watch(3, 0, 55), 0);
        due.is("9: becomes 6", lantern.run(99), 4);
        due.stopped("9: becomes 6", lantern, 3, 0);
        due.is("9: 6 again is no other, then 9", lantern.run(99), 5);
        due.is("9: nine", lantern.cell(3), 9);
        lantern.restart();
        due.is("9: kind 2", lantern.watch(3, 2, 9), 1);
        due.is("9: kind 1", lantern.watch(3, 1, 0), 2);
        lantern.run(99);
        due.stopped("9: the store of 0", lantern, 3, 2);
        lantern.run(99);
        due.stopped("9: the smallest number", lantern, 3, 0);
        lantern.run(99);
        due.stopped("9: a store of the same", lantern, 3, 2);
        lantern.restart();
        lantern.unwatch();
        lantern.watch(2, 1, 0);
        lantern.watch(3, 2, 9);
        due.is("9: kind 2 waits for its number", lantern.run(99), 9);
        due.stopped("9: kind 2", lantern, 3, 1);
        lantern.restart();
        lantern.unwatch();
        lantern.watch(3, 2, 0);
        lantern.run(99);
        due.stopped("9: 0 at first is not become", lantern, 1, -1);
    }

    private static void watchingRefused() {
        Lantern lantern = Programs.counter();
        due.refused("9: cell -1", lantern, Programs.ARGUMENT, () -> lantern.watch(-1, 0, 0));
        due.refused("9: cell 12", lantern, Programs.ARGUMENT, () -> lantern.watch(12, 0, 0));
        due.refused("9: kind -1", lantern, Programs.ARGUMENT, () -> lantern.watch(0, -1, 0));
        due.refused("9: kind 3", lantern, Programs.ARGUMENT, () -> lantern.watch(0, 3, 0));
        for (int i = 0; i < 4; i++) {
            due.is("9: watch " + i, lantern.watch(11, 2, i), i);
        }
        due.refused("9: a fifth", lantern, Programs.STATE, () -> lantern.watch(0, 0, 0));
        due.refused("9: argument first", lantern, Programs.ARGUMENT, () -> lantern.watch(0, 3, 0));
    }

    private static void watchesAndWhatIsBehind() {
        Lantern lantern = Programs.counter();
        lantern.watch(0, 0, 0);
        lantern.point(4, 3);
        lantern.run(4);
        due.stopped("9: ahead of points and of most", lantern, 3, 0);
        due.is("9: the point was not asked", lantern.ofPoint(0, 2), 3);
        lantern.over(1);
        due.stopped("9: over goes on", lantern, 4, -1);
        lantern.run(3);
        lantern.over(1);
        due.stopped("9: ahead of the goal", lantern, 3, 0);
    }

    private static void asManyAsThereCanBe() {
        Lantern lantern = Programs.counter();
        for (int i = 0; i < 5; i++) {
            lantern.point(i, 90);
        }
        lantern.point(1, 0);
        for (int i = 0; i < 3; i++) {
            lantern.watch(5, 1, 0);
        }
        lantern.watch(0, 1, 0);
        lantern.run(99);
        due.stopped("6: the last of six points", lantern, 5, 5);
        lantern.run(99);
        due.stopped("9: the last of four watches", lantern, 3, 3);
        lantern.backRun();
        due.stopped("15: the last of four watches", lantern, 3, 3);
        for (int i = 0; i < 5; i++) {
            lantern.turn(i, false, 0);
        }
        lantern.backRun();
        due.stopped("15: the last of six points", lantern, 5, 5);
        due.is("15: none of six points", lantern.backRun(), 1);
        due.stopped("15: none of six points", lantern, 7, -1);
    }

    private static void unwatching() {
        Lantern lantern = Programs.counter();
        lantern.watch(0, 0, 0);
        lantern.watch(0, 1, 0);
        due.is("10: two", lantern.unwatch(), 2);
        due.is("10: none", lantern.unwatch(), 0);
        lantern.run(20);
        due.stopped("10: none stops", lantern, 6, -1);
        due.is("10: from 0 again", lantern.watch(0, 0, 0), 0);
        lantern.run(20);
        due.stopped("10: a new one stops", lantern, 3, 0);
    }
}
