import java.util.ArrayList;
import java.util.List;

/**
 * Asks one object for all it tells, and then makes it go on, so that what is not told shows, too: the INPUT, WATCHES,
 * CONDITIONS, RECORDS and the whole PAST. It takes fewer than 300 of an object's 512 calls.
 */
final class Probe {
    interface Call {
        long on(Lantern lantern);
    }

    private final Lantern lantern;
    private final List<String> answers = new ArrayList<>();

    private Probe(Lantern lantern) {
        this.lantern = lantern;
    }

    static List<String> answersOf(Lantern lantern) {
        Probe probe = new Probe(lantern);
        probe.asked();
        probe.wouldBe();
        probe.runs();
        probe.points();
        probe.records();
        probe.grows();
        return probe.answers;
    }

    /** What the call answers, or the name of what it throws. */
    static String answer(Lantern lantern, Call call) {
        try {
            return String.valueOf(call.on(lantern));
        } catch (RuntimeException thrown) {
            return thrown.getClass().getSimpleName();
        }
    }

    private void add(String what, Call call) {
        answers.add(what + " = " + answer(lantern, call));
    }

    private void asked() {
        long[] shown = Programs.shown(lantern);
        for (int i = 0; i < shown.length; i++) {
            answers.add("shown " + i + " = " + shown[i]);
        }
        add("reason", it -> it.told(Programs.REASON));
        add("cause", it -> it.told(Programs.CAUSE));
        add("digest", Lantern::digest);
        add("heat", it -> Double.doubleToLongBits(it.heat()));
    }

    private void wouldBe() {
        for (int i = 0; i <= 20; i++) {
            int place = i;
            add("outputWith " + i, it -> it.outputWith(place, 1000 + place));
        }
        add("endsIn", it -> it.endsIn(500));
        add("cellIn", it -> it.cellIn(0, 7));
        for (int i = 0; i < 3; i++) {
            int place = i;
            add("parts " + i, it -> it.parts(place));
        }
    }

    private void runs() {
        add("over", it -> it.over(9));
        add("digest behind over", Lantern::digest);
        add("run", it -> it.run(7));
        add("digest behind run", Lantern::digest);
        add("backRun", Lantern::backRun);
        add("digest behind backRun", Lantern::digest);
        add("back", it -> it.back(3));
        add("digest behind back", Lantern::digest);
        add("unwatch", Lantern::unwatch);
        add("backRun without WATCHES", Lantern::backRun);
        add("run without WATCHES", it -> it.run(9));
        add("digest without WATCHES", Lantern::digest);
    }

    private void points() {
        for (int i = 0; i < 7; i++) {
            int point = i;
            add("condition " + i, it -> it.condition(point, 0, 0, 0));
            add("turn " + i, it -> it.turn(point, true, 0));
        }
        add("run without CONDITIONS", it -> it.run(9));
        add("digest without CONDITIONS", Lantern::digest);
    }

    private void records() {
        for (int i = 0; i < 3; i++) {
            int place = i;
            add("replay " + i, it -> it.replay(place));
            add("digest behind replay " + i, Lantern::digest);
            add("outputWith behind replay " + i, it -> it.outputWith(0, 5));
        }
    }

    private void grows() {
        add("give", it -> it.give(3));
        add("step", it -> it.step(Programs.HALT, 0));
        add("watch", it -> it.watch(1, 0, 0));
        add("point", it -> it.point(1, 0));
        add("restart", Lantern::restart);
        add("run from START", it -> it.run(40));
        add("digest at the end", Lantern::digest);
    }
}
