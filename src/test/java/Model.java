import java.util.ArrayList;
import java.util.Arrays;
import java.util.Collections;
import java.util.List;

/**
 * The document told once more, as plainly as can be: each STATE of the PAST is a whole copy, and nothing is
 * saved or used again. ModelTest compares the class with it.
 */
final class Model {
    private static final class State implements Cloneable {
        List<Integer> stack = new ArrayList<>();
        int[] cells = new int[12];
        List<Integer> frames = new ArrayList<>();
        List<Integer> output = new ArrayList<>();
        int at;
        int status;
        int read;
        int clock;

        State copy() {
            State copy = new State();
            copy.stack.addAll(stack);
            copy.cells = cells.clone();
            copy.frames.addAll(frames);
            copy.output.addAll(output);
            copy.at = at;
            copy.status = status;
            copy.read = read;
            copy.clock = clock;
            return copy;
        }
    }

    /** What a STEP fails with. */
    private static final class Fail extends Exception {
        private static final long serialVersionUID = 1;
        final int code;

        Fail(int code) {
            this.code = code;
        }
    }

    private static final class Past {
        final State state;
        final int stored;

        Past(State state, int stored) {
            this.state = state;
            this.stored = stored;
        }
    }

    private static final class Point {
        int step;
        int pass;
        boolean isOn = true;
        int how;
        int cell;
        int n;
        int caused;
    }

    private static final class Kept {
        List<Integer> input;
        List<Integer> steps;
    }

    private final List<int[]> program = new ArrayList<>();
    private List<Integer> input = new ArrayList<>();
    private State now = new State();
    private List<Past> past = new ArrayList<>();
    private boolean isPastWhole = true;
    private final List<Point> points = new ArrayList<>();
    private List<int[]> watches = new ArrayList<>();
    private final Kept[] records = new Kept[3];
    private int reason;
    private int cause = -1;

    private static void argument(boolean isFine) {
        if (!isFine) {
            throw new IllegalArgumentException();
        }
    }

    private static void state(boolean isFine) {
        if (!isFine) {
            throw new IllegalStateException();
        }
    }

    private static void index(boolean isFine) {
        if (!isFine) {
            throw new IndexOutOfBoundsException();
        }
    }

    private static boolean within(int n, int least, int most) {
        return least <= n && n <= most;
    }

    private static void checkStep(int code, int n) {
        argument(within(code, 0, 22));
        argument(code != 12 && code != 13 || within(n, 0, 11));
        argument(code < 16 || code > 18 || within(n, 0, 80));
    }

    public int step(int code, int n) {
        checkStep(code, n);
        state(program.size() < 80);
        program.add(new int[] {code, n, 0});
        return program.size() - 1;
    }

    public int rewrite(int step, int code, int n) {
        index(within(step, 0, program.size() - 1));
        checkStep(code, n);
        int before = program.get(step)[0];
        program.set(step, new int[] {code, n, program.get(step)[2]});
        return before;
    }

    public int give(int n) {
        state(input.size() < 20);
        input.add(n);
        return input.size();
    }

    public int restart() {
        now = new State();
        past = new ArrayList<>();
        isPastWhole = true;
        for (int[] step : program) {
            step[2] = 0;
        }
        reason = 0;
        cause = -1;
        return program.size();
    }

    public int point(int step, int pass) {
        argument(within(step, 0, 79) && within(pass, 0, 99));
        state(points.size() < 6);
        Point point = new Point();
        point.step = step;
        point.pass = pass;
        points.add(point);
        return points.size() - 1;
    }

    public int condition(int point, int how, int cell, int n) {
        index(within(point, 0, points.size() - 1));
        argument(within(how, 0, 3));
        argument(how == 0 || within(cell, 0, 11));
        Point it = points.get(point);
        int before = it.how;
        it.how = how;
        it.cell = cell;
        it.n = n;
        return before;
    }

    public int turn(int point, boolean isOn, int pass) {
        index(within(point, 0, points.size() - 1));
        argument(within(pass, 0, 99));
        int before = points.get(point).pass;
        points.get(point).isOn = isOn;
        points.get(point).pass = pass;
        return before;
    }

    public int watch(int cell, int kind, int n) {
        argument(within(cell, 0, 11) && within(kind, 0, 2));
        state(watches.size() < 4);
        watches.add(new int[] {cell, kind, n});
        return watches.size() - 1;
    }

    public int unwatch() {
        int before = watches.size();
        watches = new ArrayList<>();
        return before;
    }

    private static int take(State of) throws Fail {
        if (of.stack.isEmpty()) {
            throw new Fail(2);
        }
        return of.stack.remove(of.stack.size() - 1);
    }

    /** Does one STEP on a copy, so that a fail leaves nothing behind; answers the STATE then. */
    private State done(State from, List<Integer> given, int[] stored) throws Fail {
        State to = from.copy();
        if (from.at >= program.size()) {
            throw new Fail(6);
        }
        int code = program.get(from.at)[0];
        int n = program.get(from.at)[1];
        to.at++;
        stored[0] = -1;
        if (code >= 5 && code <= 10) {
            reckon(to, code);
        } else if (code == 0) {
            to.stack.add(n);
        } else if (code == 1) {
            take(to);
        } else if (code == 2) {
            int top = take(to);
            Collections.addAll(to.stack, top, top);
        } else if (code == 3) {
            int b = take(to);
            int a = take(to);
            Collections.addAll(to.stack, b, a);
        } else if (code == 4) {
            int b = take(to);
            int a = take(to);
            Collections.addAll(to.stack, a, b, a);
        } else if (code == 11) {
            to.stack.add(take(to) == 0 ? 1 : 0);
        } else if (code == 12) {
            to.stack.add(to.cells[n]);
        } else if (code == 13) {
            to.cells[n] = take(to);
            stored[0] = n;
        } else if (code == 14) {
            to.stack.add(to.cells[cellOf(take(to))]);
        } else if (code == 15) {
            int cell = take(to);
            int number = take(to);
            to.cells[cellOf(cell)] = number;
            stored[0] = cell;
        } else if (code == 16) {
            to.at = n;
        } else if (code == 17) {
            to.at = take(to) == 0 ? n : to.at;
        } else if (code == 18) {
            to.frames.add(to.at);
            to.at = n;
        } else if (code == 19) {
            if (to.frames.isEmpty()) {
                throw new Fail(2);
            }
            to.at = to.frames.remove(to.frames.size() - 1);
        } else if (code == 20) {
            to.stack.add(to.read < given.size() ? given.get(to.read++) : 0);
        } else if (code == 21) {
            to.output.add(take(to));
        } else {
            to.at = from.at;
            to.status = 1;
        }
        if (to.stack.size() > 24 || to.frames.size() > 8 || to.output.size() > 30) {
            throw new Fail(3);
        }
        to.clock++;
        return to;
    }

    private static int cellOf(int n) throws Fail {
        if (!within(n, 0, 11)) {
            throw new Fail(5);
        }
        return n;
    }

    private static void reckon(State to, int code) throws Fail {
        int b = take(to);
        int a = take(to);
        if (code == 8 && b == 0) {
            throw new Fail(4);
        }
        long[] answers = {(long) a + b, (long) a - b, (long) a * b, b == 0 ? 0 : (long) a / b,
            a < b ? 1 : 0, a == b ? 1 : 0};
        to.stack.add((int) answers[code - 5]);
    }

    /** One STEP of the run itself; answers what cell was stored into, -1 for none, -2 if none was done. */
    private int advance() {
        if (now.status != 0) {
            return -2;
        }
        int[] stored = {-1};
        State before = now;
        try {
            now = done(now, input, stored);
        } catch (Fail fail) {
            now = now.copy();
            now.status = fail.code;
            return -2;
        }
        program.get(before.at)[2]++;
        past.add(new Past(before, stored[0]));
        if (past.size() > 200) {
            past.remove(0);
            isPastWhole = false;
        }
        return stored[0];
    }

    private void stop(int why, int who) {
        reason = why;
        cause = who;
    }

    private boolean holds(Point point) {
        int number = now.cells[point.how == 0 ? 0 : point.cell];
        return point.how == 0 || point.how == 1 && number < point.n || point.how == 2 && number == point.n
            || point.how == 3 && number > point.n;
    }

    /** goal: 0 none, 1 one STEP, 2 as many FRAMES as there were, 3 fewer. */
    private int go(int most, int goal) {
        int frames = now.frames.size();
        for (int steps = 1; steps <= most; steps++) {
            int[] before = now.cells.clone();
            int stored = advance();
            if (stored == -2) {
                stop(now.status == 1 ? 1 : 2, -1);
                return steps - 1;
            }
            int watch = -1;
            for (int i = watches.size() - 1; i >= 0; i--) {
                int[] it = watches.get(i);
                boolean isOther = before[it[0]] != now.cells[it[0]];
                if (it[1] == 0 && isOther || it[1] == 1 && stored == it[0]
                    || it[1] == 2 && isOther && now.cells[it[0]] == it[2]) {
                    watch = i;
                }
            }
            if (now.status == 1) {
                stop(1, -1);
                return steps;
            }
            if (watch >= 0) {
                stop(3, watch);
                return steps;
            }
            if (goal == 1 || goal == 2 && now.frames.size() == frames || goal == 3 && now.frames.size() < frames) {
                stop(4, -1);
                return steps;
            }
            int who = askPoints();
            if (who >= 0) {
                points.get(who).caused++;
                stop(5, who);
                return steps;
            }
        }
        stop(6, -1);
        return most;
    }

    private int askPoints() {
        int who = -1;
        for (int i = points.size() - 1; i >= 0; i--) {
            Point point = points.get(i);
            if (point.isOn && point.step == now.at && holds(point)) {
                if (point.pass > 0) {
                    point.pass--;
                } else {
                    who = i;
                }
            }
        }
        return who;
    }

    public int run(int most) {
        argument(within(most, 1, 500));
        return go(most, 0);
    }

    public int over(int most) {
        argument(within(most, 1, 500));
        boolean isCall = now.at < program.size() && program.get(now.at)[0] == 18;
        return go(most, isCall ? 2 : 1);
    }

    public int out(int most) {
        argument(within(most, 1, 500));
        state(!now.frames.isEmpty());
        return go(most, 3);
    }

    public int back(int many) {
        argument(within(many, 1, 200));
        int gone = 0;
        while (gone < many && !past.isEmpty()) {
            now = past.remove(past.size() - 1).state;
            gone++;
        }
        stop(7, -1);
        return gone;
    }

    public int backRun() {
        int gone = 0;
        while (!past.isEmpty()) {
            State before = now;
            now = past.remove(past.size() - 1).state;
            gone++;
            for (int i = 0; i < watches.size(); i++) {
                if (before.cells[watches.get(i)[0]] != now.cells[watches.get(i)[0]]) {
                    stop(3, i);
                    return gone;
                }
            }
            for (int i = 0; i < points.size(); i++) {
                if (points.get(i).isOn && points.get(i).step == now.at && holds(points.get(i))) {
                    stop(5, i);
                    return gone;
                }
            }
        }
        stop(7, -1);
        return gone;
    }

    public int told(int what) {
        argument(within(what, 0, 9));
        return new int[] {now.at, now.status, now.clock, now.stack.size(), now.frames.size(), now.read,
            now.output.size(), past.size(), reason, cause}[what];
    }

    public int stack(int place) {
        index(within(place, 0, now.stack.size() - 1));
        return now.stack.get(now.stack.size() - 1 - place);
    }

    public int cell(int cell) {
        index(within(cell, 0, 11));
        return now.cells[cell];
    }

    public int frame(int place) {
        index(within(place, 0, now.frames.size() - 1));
        return now.frames.get(now.frames.size() - 1 - place);
    }

    public int output(int place) {
        index(within(place, 0, now.output.size() - 1));
        return now.output.get(place);
    }

    public int ofStep(int step, int what) {
        index(within(step, 0, program.size() - 1));
        argument(within(what, 0, 2));
        return program.get(step)[what];
    }

    public int ofPoint(int point, int what) {
        index(within(point, 0, points.size() - 1));
        argument(within(what, 0, 3));
        Point it = points.get(point);
        return new int[] {it.step, it.isOn ? 1 : 0, it.pass, it.caused}[what];
    }

    public int then(int ago, int what) {
        index(within(ago, 0, past.size()));
        argument(within(what, 0, 15));
        State was = ago == 0 ? now : past.get(past.size() - ago).state;
        if (what >= 4) {
            return was.cells[what - 4];
        }
        int top = was.stack.isEmpty() ? 0 : was.stack.get(was.stack.size() - 1);
        return new int[] {was.at, was.stack.size(), top, was.frames.size()}[what];
    }

    public int wroteAgo(int cell) {
        index(within(cell, 0, 11));
        for (int i = past.size() - 1; i >= 0; i--) {
            if (past.get(i).stored == cell) {
                return past.size() - i;
            }
        }
        return 0;
    }

    private List<Integer> stepsDone() {
        List<Integer> steps = new ArrayList<>();
        for (Past it : past) {
            steps.add(it.state.at);
        }
        return steps;
    }

    public int record(int place) {
        index(within(place, 0, 2));
        state(isPastWhole);
        records[place] = new Kept();
        records[place].input = new ArrayList<>(input);
        records[place].steps = stepsDone();
        return records[place].steps.size();
    }

    public int replay(int place) {
        index(within(place, 0, 2));
        state(records[place] != null);
        input = new ArrayList<>(records[place].input);
        restart();
        int steps = 0;
        for (int i = 0; i < records[place].steps.size(); i++) {
            steps += advance() == -2 ? 0 : 1;
        }
        stop(8, -1);
        return steps;
    }

    public int parts(int place) {
        index(within(place, 0, 2));
        state(records[place] != null && isPastWhole);
        List<Integer> steps = stepsDone();
        for (int i = 0; i < steps.size() && i < records[place].steps.size(); i++) {
            if (!steps.get(i).equals(records[place].steps.get(i))) {
                return i;
            }
        }
        return -1;
    }

    public int endsIn(int most) {
        argument(within(most, 1, 500));
        State it = now;
        for (int steps = 0; steps < most; steps++) {
            if (it.status != 0) {
                return steps;
            }
            try {
                it = done(it, input, new int[1]);
            } catch (Fail fail) {
                return steps;
            }
        }
        return it.status == 1 ? most : -1;
    }

    private State behind(State from, List<Integer> given, int most) {
        State it = from;
        for (int steps = 0; steps < most && it.status == 0; steps++) {
            try {
                it = done(it, given, new int[1]);
            } catch (Fail fail) {
                return it;
            }
        }
        return it;
    }

    public int cellIn(int cell, int most) {
        index(within(cell, 0, 11));
        argument(within(most, 1, 500));
        return behind(now, input, most).cells[cell];
    }

    public int outputWith(int place, int n) {
        index(within(place, 0, input.size() - 1));
        List<Integer> given = new ArrayList<>(input);
        given.set(place, n);
        long sum = 0;
        for (int number : behind(new State(), given, 300).output) {
            sum += number;
        }
        return (int) sum;
    }

    public double heat() {
        double all = 0;
        double steps = 0;
        for (int[] step : program) {
            all += step[2];
            steps += step[2] > 0 ? 1 : 0;
        }
        return steps == 0 ? 0 : all / steps;
    }

    public long digest() {
        List<Integer> all = new ArrayList<>();
        for (int what = 0; what <= 9; what++) {
            all.add(told(what));
        }
        List<Integer> fromTop = new ArrayList<>(now.stack);
        Collections.reverse(fromTop);
        all.addAll(fromTop);
        for (int number : now.cells) {
            all.add(number);
        }
        List<Integer> latestFirst = new ArrayList<>(now.frames);
        Collections.reverse(latestFirst);
        all.addAll(latestFirst);
        all.addAll(now.output);
        for (int[] step : program) {
            all.addAll(Arrays.asList(step[0], step[1], step[2]));
        }
        for (Point point : points) {
            all.addAll(Arrays.asList(point.step, point.isOn ? 1 : 0, point.pass, point.caused));
        }
        for (int cell = 0; cell < 12; cell++) {
            all.add(wroteAgo(cell));
        }
        for (int ago : new int[] {1, 5}) {
            if (ago <= past.size()) {
                all.addAll(Arrays.asList(then(ago, 0), then(ago, 2), then(ago, 4)));
            }
        }
        all.add(endsIn(50));
        long d = 58068;
        for (int x : all) {
            d = d * 31 + x;
        }
        return d;
    }
}
