/** A debugger for a small language with a stack. */
public final class Lantern {

    private static final int MOST_STEPS = 80;
    private static final int MOST_STACK = 24;
    private static final int CELLS = 12;
    private static final int MOST_FRAMES = 8;
    private static final int MOST_OUTPUT = 30;
    private static final int MOST_INPUT = 20;
    private static final int MOST_PAST = 200;
    private static final int MOST_POINTS = 6;
    private static final int MOST_WATCHES = 4;
    private static final int RECORDS = 3;
    private static final int MOST_PASS = 99;
    private static final int MOST_RUN = 500;
    private static final int STEPS_OF_OUTPUT_WITH = 300;

    private static final int PUSH = 0;
    private static final int POP = 1;
    private static final int TWICE = 2;
    private static final int SWAP = 3;
    private static final int OVER = 4;
    private static final int ADD = 5;
    private static final int LESS = 6;
    private static final int TIMES = 7;
    private static final int PER = 8;
    private static final int IS_BELOW = 9;
    private static final int IS_SAME = 10;
    private static final int NOT = 11;
    private static final int LOAD = 12;
    private static final int STORE = 13;
    private static final int LOAD_AT = 14;
    private static final int STORE_AT = 15;
    private static final int GO = 16;
    private static final int IF_NOT = 17;
    private static final int CALL = 18;
    private static final int RETURN = 19;
    private static final int READ = 20;
    private static final int WRITE = 21;
    private static final int HALT = 22;

    private static final int READY = 0;
    private static final int HALTED = 1;
    private static final int FAILED_LACKING = 2;
    private static final int FAILED_TOO_MANY = 3;
    private static final int FAILED_PER_ZERO = 4;
    private static final int FAILED_NO_CELL = 5;
    private static final int FAILED_NO_STEP = 6;

    private static final int BY_NOTHING = 0;
    private static final int BY_HALT = 1;
    private static final int BY_FAIL = 2;
    private static final int BY_WATCH = 3;
    private static final int BY_GOAL = 4;
    private static final int BY_POINT = 5;
    private static final int BY_MOST = 6;
    private static final int BY_BACK = 7;
    private static final int BY_REPLAY = 8;

    private static final int NONE = -1;

    private static final int BELOW = 1;
    private static final int EQUAL = 2;
    private static final int ABOVE = 3;

    private static final int BECOMES_OTHER = 0;
    private static final int IS_STORED = 1;
    private static final int BECOMES_NUMBER = 2;

    private static final int FIRST_DIGEST = 58068;
    private static final int ENDS_IN_OF_DIGEST = 50;

    private final Program program;
    private final Row input;
    private final State state;
    private final Past past;
    private final Point[] points;
    private int pointCount;
    private final Watch[] watches;
    private int watchCount;
    private final Tape[] tapes;
    private int reason;
    private int cause;

    // What would be is tried out on these, so that nothing of the run itself is touched.
    private final State trial;
    private final Row trialInput;

    public Lantern() {
        program = new Program();
        input = new Row(MOST_INPUT);
        state = new State();
        past = new Past();
        points = new Point[MOST_POINTS];
        for (int i = 0; i < points.length; i++) {
            points[i] = new Point();
        }
        watches = new Watch[MOST_WATCHES];
        for (int i = 0; i < watches.length; i++) {
            watches[i] = new Watch();
        }
        tapes = new Tape[RECORDS];
        for (int i = 0; i < tapes.length; i++) {
            tapes[i] = new Tape();
        }
        reason = BY_NOTHING;
        cause = NONE;
        trial = new State();
        trialInput = new Row(MOST_INPUT);
    }

    // ---- the program

    public int step(int code, int n) throws IllegalArgumentException, IllegalStateException {
        if (!Program.allows(code, n)) {
            throw new IllegalArgumentException("no such code, or not with this number");
        }
        if (program.isFull()) {
            throw new IllegalStateException("there are 80 steps");
        }
        program.add(code, n);
        return program.size() - 1;
    }

    public int rewrite(int step, int code, int n) throws IndexOutOfBoundsException, IllegalArgumentException {
        if (!program.has(step)) {
            throw new IndexOutOfBoundsException("no such step");
        }
        if (!Program.allows(code, n)) {
            throw new IllegalArgumentException("no such code, or not with this number");
        }
        int before = program.codeAt(step);
        program.write(step, code, n);
        return before;
    }

    public int give(int n) throws IllegalStateException {
        if (input.isFull()) {
            throw new IllegalStateException("there are 20 numbers in the input");
        }
        input.push(n);
        return input.size();
    }

    public int restart() {
        start();
        return program.size();
    }

    private void start() {
        state.clear();
        past.clear();
        program.forgetTimes();
        stopBy(BY_NOTHING, NONE);
    }

    // ---- points and watches

    public int point(int step, int pass) throws IllegalArgumentException, IllegalStateException {
        if (step < 0 || step >= MOST_STEPS || !isPass(pass)) {
            throw new IllegalArgumentException("step is not 0 to 79, or pass is not 0 to 99");
        }
        if (pointCount >= points.length) {
            throw new IllegalStateException("there are 6 points");
        }
        points[pointCount].place(step, pass);
        pointCount++;
        return pointCount - 1;
    }

    public int condition(int point, int how, int cell, int n)
            throws IndexOutOfBoundsException, IllegalArgumentException {
        Point found = pointNumbered(point);
        if (found == null) {
            throw new IndexOutOfBoundsException("no such point");
        }
        if (how < 0 || how > ABOVE || how > 0 && !isCell(cell)) {
            throw new IllegalArgumentException("how is not 0 to 3, or cell is not 0 to 11");
        }
        int before = found.how;
        found.how = how;
        found.cell = cell;
        found.n = n;
        return before;
    }

    public int turn(int point, boolean isOn, int pass) throws IndexOutOfBoundsException, IllegalArgumentException {
        Point found = pointNumbered(point);
        if (found == null) {
            throw new IndexOutOfBoundsException("no such point");
        }
        if (!isPass(pass)) {
            throw new IllegalArgumentException("pass is not 0 to 99");
        }
        int before = found.pass;
        found.isOn = isOn;
        found.pass = pass;
        return before;
    }

    public int watch(int cell, int kind, int n) throws IllegalArgumentException, IllegalStateException {
        if (!isCell(cell) || kind < 0 || kind > BECOMES_NUMBER) {
            throw new IllegalArgumentException("cell is not 0 to 11, or kind is not 0 to 2");
        }
        if (watchCount >= watches.length) {
            throw new IllegalStateException("there are 4 watches");
        }
        watches[watchCount].place(cell, kind, n);
        watchCount++;
        return watchCount - 1;
    }

    public int unwatch() {
        int before = watchCount;
        watchCount = 0;
        return before;
    }

    private static boolean isCell(int cell) {
        return cell >= 0 && cell < CELLS;
    }

    private static boolean isPass(int pass) {
        return pass >= 0 && pass <= MOST_PASS;
    }

    private Point pointNumbered(int point) {
        return point >= 0 && point < pointCount && point < points.length ? points[point] : null;
    }

    private Watch watchNumbered(int watch) {
        return watch >= 0 && watch < watchCount && watch < watches.length ? watches[watch] : null;
    }

    // ---- running

    public int run(int most) throws IllegalArgumentException {
        if (!isRunLength(most)) {
            throw new IllegalArgumentException("most is not 1 to 500");
        }
        // There are never fewer than 0 frames, so this goal is never reached.
        return runTill(most, NONE);
    }

    public int over(int most) throws IllegalArgumentException {
        if (!isRunLength(most)) {
            throw new IllegalArgumentException("most is not 1 to 500");
        }
        // Only a call leaves more frames open than there were, so this goal fits every other step, too.
        return runTill(most, state.frames.size());
    }

    public int out(int most) throws IllegalArgumentException, IllegalStateException {
        if (!isRunLength(most)) {
            throw new IllegalArgumentException("most is not 1 to 500");
        }
        if (state.frames.size() == 0) {
            throw new IllegalStateException("no frame is open");
        }
        return runTill(most, state.frames.size() - 1);
    }

    public int back(int many) throws IllegalArgumentException {
        if (many < 1 || many > MOST_PAST) {
            throw new IllegalArgumentException("many is not 1 to 200");
        }
        int gone = 0;
        while (gone < many && goBack() != null) {
            gone++;
        }
        stopBy(BY_BACK, NONE);
        return gone;
    }

    public int backRun() {
        stopBy(BY_BACK, NONE);
        for (int gone = 0; gone < MOST_PAST; gone++) {
            Moment undone = goBack();
            if (undone == null) {
                return gone;
            }
            if (stopsBackRun(undone)) {
                return gone + 1;
            }
        }
        return MOST_PAST;
    }

    private static boolean isRunLength(int most) {
        return most >= 1 && most <= MOST_RUN;
    }

    private void stopBy(int newReason, int newCause) {
        reason = newReason;
        cause = newCause;
    }

    /** A RUN with the goal that no more than so many FRAMES are open behind a STEP. */
    private int runTill(int most, int goalFrames) {
        for (int done = 0; done < most; done++) {
            if (!doStep()) {
                stopBy(state.status == HALTED ? BY_HALT : BY_FAIL, NONE);
                return done;
            }
            if (stopsRun(goalFrames)) {
                return done + 1;
            }
        }
        stopBy(BY_MOST, NONE);
        return most;
    }

    private boolean doStep() {
        if (!state.readies(program)) {
            return false;
        }
        program.countTime(state.at);
        state.describe(past.newest(), program);
        state.perform(program, input);
        return true;
    }

    private boolean stopsRun(int goalFrames) {
        if (state.status == HALTED) {
            stopBy(BY_HALT, NONE);
            return true;
        }
        int watch = watchMet();
        if (watch != NONE) {
            stopBy(BY_WATCH, watch);
            return true;
        }
        if (state.frames.size() <= goalFrames) {
            stopBy(BY_GOAL, NONE);
            return true;
        }
        int number = pointStopping();
        Point point = pointNumbered(number);
        if (point != null) {
            stopBy(BY_POINT, number);
            point.stops++;
            return true;
        }
        return false;
    }

    private int watchMet() {
        Moment latest = past.ago(1);
        if (latest == null) {
            return NONE;
        }
        for (int i = 0; i < watchCount; i++) {
            Watch watch = watchNumbered(i);
            if (watch != null && watch.isMetBy(latest)) {
                return i;
            }
        }
        return NONE;
    }

    // No early end: every point that is hit is asked, so that each has one less to pass.
    private int pointStopping() {
        int first = NONE;
        for (int i = 0; i < pointCount; i++) {
            Point point = pointNumbered(i);
            if (point != null && point.isHit(state) && !point.letsPass() && first == NONE) {
                first = i;
            }
        }
        return first;
    }

    /** Goes BACK by one STATE; answers what was done behind it, or null if there is no PAST. */
    private Moment goBack() {
        Moment latest = past.ago(1);
        if (latest != null) {
            state.goBackTo(latest);
            past.dropLatest();
        }
        return latest;
    }

    private boolean stopsBackRun(Moment undone) {
        for (int i = 0; i < watchCount; i++) {
            Watch watch = watchNumbered(i);
            if (watch != null && undone.changed(watch.cell)) {
                stopBy(BY_WATCH, i);
                return true;
            }
        }
        for (int i = 0; i < pointCount; i++) {
            Point point = pointNumbered(i);
            if (point != null && point.isHit(state)) {
                stopBy(BY_POINT, i);
                return true;
            }
        }
        return false;
    }

    // ---- asking

    public int told(int what) throws IllegalArgumentException {
        switch (what) {
            case 0: return state.at;
            case 1: return state.status;
            case 2: return state.clock;
            case 3: return state.stack.size();
            case 4: return state.frames.size();
            case 5: return state.read;
            case 6: return state.output.size();
            case 7: return past.size();
            case 8: return reason;
            case 9: return cause;
            default: throw new IllegalArgumentException("what is not 0 to 9");
        }
    }

    public int stack(int place) throws IndexOutOfBoundsException {
        if (!state.stack.has(place)) {
            throw new IndexOutOfBoundsException("no such place on the stack");
        }
        return state.stack.fromTop(place);
    }

    public int cell(int cell) throws IndexOutOfBoundsException {
        if (!isCell(cell)) {
            throw new IndexOutOfBoundsException("no such cell");
        }
        return state.cells.get(cell);
    }

    public int frame(int place) throws IndexOutOfBoundsException {
        if (!state.frames.has(place)) {
            throw new IndexOutOfBoundsException("no such frame");
        }
        return state.frames.fromTop(place);
    }

    public int output(int place) throws IndexOutOfBoundsException {
        if (!state.output.has(place)) {
            throw new IndexOutOfBoundsException("no such place in the output");
        }
        return state.output.get(place);
    }

    public int ofStep(int step, int what) throws IndexOutOfBoundsException, IllegalArgumentException {
        if (!program.has(step)) {
            throw new IndexOutOfBoundsException("no such step");
        }
        switch (what) {
            case 0: return program.codeAt(step);
            case 1: return program.numberAt(step);
            case 2: return program.timesAt(step);
            default: throw new IllegalArgumentException("what is not 0 to 2");
        }
    }

    public int ofPoint(int point, int what) throws IndexOutOfBoundsException, IllegalArgumentException {
        Point found = pointNumbered(point);
        if (found == null) {
            throw new IndexOutOfBoundsException("no such point");
        }
        switch (what) {
            case 0: return found.step;
            case 1: return truth(found.isOn);
            case 2: return found.pass;
            case 3: return found.stops;
            default: throw new IllegalArgumentException("what is not 0 to 3");
        }
    }

    public int then(int ago, int what) throws IndexOutOfBoundsException, IllegalArgumentException {
        if (ago < 0 || ago > past.size()) {
            throw new IndexOutOfBoundsException("the past has no so many");
        }
        if (what < 0 || what > 3 + CELLS) {
            throw new IllegalArgumentException("what is not 0 to 15");
        }
        if (what > 3) {
            return past.cellAgo(what - 4, ago, state.cells.get(what - 4));
        }
        Moment moment = past.ago(ago);
        return moment == null ? ofNow(what) : moment.tellOf(what);
    }

    public int wroteAgo(int cell) throws IndexOutOfBoundsException {
        if (!isCell(cell)) {
            throw new IndexOutOfBoundsException("no such cell");
        }
        return past.storedAgo(cell);
    }

    private int ofNow(int what) {
        switch (what) {
            case 0: return state.at;
            case 1: return state.stack.size();
            case 2: return state.stack.fromTop(0);
            default: return state.frames.size();
        }
    }

    private static int truth(boolean isSo) {
        return isSo ? 1 : 0;
    }

    // ---- recorded runs

    public int record(int place) throws IndexOutOfBoundsException, IllegalStateException {
        Tape tape = tapeAt(place);
        if (tape == null) {
            throw new IndexOutOfBoundsException("place is not 0 to 2");
        }
        if (!beginsAtStart()) {
            throw new IllegalStateException("the past does not begin at start");
        }
        tape.isRecorded = true;
        tape.input.copyFrom(input);
        past.writeSteps(tape.steps);
        return tape.steps.size();
    }

    public int replay(int place) throws IndexOutOfBoundsException, IllegalStateException {
        Tape tape = tapeAt(place);
        if (tape == null) {
            throw new IndexOutOfBoundsException("place is not 0 to 2");
        }
        if (!tape.isRecorded) {
            throw new IllegalStateException("there is no record");
        }
        input.copyFrom(tape.input);
        start();
        int done = 0;
        while (done < tape.steps.size() && doStep()) {
            done++;
        }
        stopBy(BY_REPLAY, NONE);
        return done;
    }

    public int parts(int place) throws IndexOutOfBoundsException, IllegalStateException {
        Tape tape = tapeAt(place);
        if (tape == null) {
            throw new IndexOutOfBoundsException("place is not 0 to 2");
        }
        if (!tape.isRecorded || !beginsAtStart()) {
            throw new IllegalStateException("there is no record, or the past does not begin at start");
        }
        return past.firstOther(tape.steps);
    }

    private Tape tapeAt(int place) {
        return place >= 0 && place < tapes.length ? tapes[place] : null;
    }

    // The clock goes back with the past, so it is ahead only of what is gone from the past for ever.
    private boolean beginsAtStart() {
        return state.clock == past.size();
    }

    // ---- what would be

    public int endsIn(int most) throws IllegalArgumentException {
        if (!isRunLength(most)) {
            throw new IllegalArgumentException("most is not 1 to 500");
        }
        trial.copyFrom(state);
        int done = tryOut(most, input);
        return done < most || trial.status == HALTED ? done : NONE;
    }

    public int cellIn(int cell, int most) throws IndexOutOfBoundsException, IllegalArgumentException {
        if (!isCell(cell)) {
            throw new IndexOutOfBoundsException("no such cell");
        }
        if (!isRunLength(most)) {
            throw new IllegalArgumentException("most is not 1 to 500");
        }
        trial.copyFrom(state);
        tryOut(most, input);
        return trial.cells.get(cell);
    }

    public int outputWith(int place, int n) throws IndexOutOfBoundsException {
        if (!input.has(place)) {
            throw new IndexOutOfBoundsException("no such place in the input");
        }
        trialInput.copyFrom(input);
        trialInput.put(place, n);
        trial.clear();
        tryOut(STEPS_OF_OUTPUT_WITH, trialInput);
        return trial.output.sum();
    }

    public double heat() {
        int steps = 0;
        int times = 0;
        for (int step = 0; step < program.size(); step++) {
            if (program.timesAt(step) > 0) {
                steps++;
                times += program.timesAt(step);
            }
        }
        return steps == 0 ? 0.0 : (double) times / (double) steps;
    }

    public long digest() {
        long d = FIRST_DIGEST;
        for (int what = 0; what <= 9; what++) {
            d = mixed(d, told(what));
        }
        d = state.mixedInto(d);
        d = mixedProgram(d);
        d = mixedPoints(d);
        for (int cell = 0; cell < CELLS; cell++) {
            d = mixed(d, past.storedAgo(cell));
        }
        d = mixedThen(d, 1);
        d = mixedThen(d, 5);
        return mixed(d, endsIn(ENDS_IN_OF_DIGEST));
    }

    private int tryOut(int most, Row given) {
        int done = 0;
        while (done < most && trial.readies(program)) {
            trial.perform(program, given);
            done++;
        }
        return done;
    }

    private static long mixed(long d, int x) {
        return d * 31 + x;
    }

    private long mixedProgram(long before) {
        long d = before;
        for (int step = 0; step < program.size(); step++) {
            d = mixed(d, program.codeAt(step));
            d = mixed(d, program.numberAt(step));
            d = mixed(d, program.timesAt(step));
        }
        return d;
    }

    private long mixedPoints(long before) {
        long d = before;
        for (int i = 0; i < pointCount; i++) {
            Point point = pointNumbered(i);
            if (point != null) {
                d = mixed(d, point.step);
                d = mixed(d, truth(point.isOn));
                d = mixed(d, point.pass);
                d = mixed(d, point.stops);
            }
        }
        return d;
    }

    private long mixedThen(long before, int ago) {
        if (ago > past.size()) {
            return before;
        }
        long d = before;
        for (int what = 0; what <= 4; what += 2) {
            d = mixed(d, then(ago, what));
        }
        return d;
    }

    /** Numbers in a row, up to a bound; it is safe for every place, so that no caller can go astray. */
    private static final class Row {
        private final int[] items;
        private int count;

        Row(int most) {
            items = new int[Math.max(most, 0)];
        }

        int size() {
            return count;
        }

        boolean isFull() {
            return count >= items.length;
        }

        boolean has(int place) {
            return place >= 0 && place < count;
        }

        int get(int place) {
            return place >= 0 && place < count ? items[place] : 0;
        }

        int fromTop(int depth) {
            return get(count - 1 - depth);
        }

        void put(int place, int n) {
            if (place >= 0 && place < count) {
                items[place] = n;
            }
        }

        void putFromTop(int depth, int n) {
            put(count - 1 - depth, n);
        }

        void push(int n) {
            if (count < items.length) {
                items[count] = n;
                count++;
            }
        }

        int pop() {
            if (count <= 0) {
                return 0;
            }
            count--;
            return items[count];
        }

        /** What comes in by this is what stood there last. */
        void resize(int size) {
            count = Math.max(0, Math.min(size, items.length));
        }

        void fillWithZeros() {
            count = items.length;
            for (int i = 0; i < items.length; i++) {
                items[i] = 0;
            }
        }

        void copyFrom(Row other) {
            resize(other.count);
            System.arraycopy(other.items, 0, items, 0, count);
        }

        int sum() {
            int sum = 0;
            for (int i = 0; i < count; i++) {
                sum += items[i];
            }
            return sum;
        }

        long mixedInto(long before) {
            long d = before;
            for (int i = 0; i < count; i++) {
                d = mixed(d, items[i]);
            }
            return d;
        }

        long mixedFromTopInto(long before) {
            long d = before;
            for (int depth = 0; depth < count; depth++) {
                d = mixed(d, fromTop(depth));
            }
            return d;
        }
    }

    /** The PROGRAM, and how often each of its STEPS was done. */
    private static final class Program {
        private final Row codes = new Row(MOST_STEPS);
        private final Row numbers = new Row(MOST_STEPS);
        private final Row times = new Row(MOST_STEPS);

        static boolean allows(int code, int n) {
            if (code == LOAD || code == STORE) {
                return isCell(n);
            }
            if (code == GO || code == IF_NOT || code == CALL) {
                return n >= 0 && n <= MOST_STEPS;
            }
            return code >= PUSH && code <= HALT;
        }

        int size() {
            return codes.size();
        }

        boolean isFull() {
            return codes.isFull();
        }

        boolean has(int step) {
            return codes.has(step);
        }

        int codeAt(int step) {
            return codes.get(step);
        }

        int numberAt(int step) {
            return numbers.get(step);
        }

        int timesAt(int step) {
            return times.get(step);
        }

        void add(int code, int n) {
            codes.push(code);
            numbers.push(n);
            times.push(0);
        }

        void write(int step, int code, int n) {
            codes.put(step, code);
            numbers.put(step, n);
        }

        void countTime(int step) {
            times.put(step, times.get(step) + 1);
        }

        void forgetTimes() {
            for (int step = 0; step < times.size(); step++) {
                times.put(step, 0);
            }
        }
    }

    /** A STATE. */
    private static final class State {
        private final Row stack = new Row(MOST_STACK);
        private final Row cells = new Row(CELLS);
        private final Row frames = new Row(MOST_FRAMES);
        private final Row output = new Row(MOST_OUTPUT);
        private int at;
        private int status;
        private int read;
        private int clock;

        State() {
            cells.fillWithZeros();
        }

        void clear() {
            stack.resize(0);
            cells.fillWithZeros();
            frames.resize(0);
            output.resize(0);
            at = 0;
            status = READY;
            read = 0;
            clock = 0;
        }

        void copyFrom(State other) {
            stack.copyFrom(other.stack);
            cells.copyFrom(other.cells);
            frames.copyFrom(other.frames);
            output.copyFrom(other.output);
            at = other.at;
            status = other.status;
            read = other.read;
            clock = other.clock;
        }

        /** Whether a STEP can be done now; if it FAILS with it, it is FAILED from now on. */
        boolean readies(Program program) {
            if (status == READY) {
                status = failureOf(program);
            }
            return status == READY;
        }

        // Asked in the order in which the document ranks the failures.
        private int failureOf(Program program) {
            if (!program.has(at)) {
                return FAILED_NO_STEP;
            }
            int code = program.codeAt(at);
            if (stack.size() < needOnStack(code) || code == RETURN && frames.size() == 0) {
                return FAILED_LACKING;
            }
            if (code == PER && stack.fromTop(0) == 0) {
                return FAILED_PER_ZERO;
            }
            if ((code == LOAD_AT || code == STORE_AT) && !isCell(stack.fromTop(0))) {
                return FAILED_NO_CELL;
            }
            return isTooFullFor(code) ? FAILED_TOO_MANY : READY;
        }

        private static int needOnStack(int code) {
            switch (code) {
                case PUSH: case LOAD: case GO: case CALL: case RETURN: case READ: case HALT:
                    return 0;
                case POP: case TWICE: case NOT: case STORE: case LOAD_AT: case IF_NOT: case WRITE:
                    return 1;
                default:
                    return 2;
            }
        }

        private boolean isTooFullFor(int code) {
            switch (code) {
                case PUSH: case TWICE: case OVER: case LOAD: case READ:
                    return stack.isFull();
                case CALL:
                    return frames.isFull();
                case WRITE:
                    return output.isFull();
                default:
                    return false;
            }
        }

        /** Does the STEP at which it is; only behind readies(). */
        void perform(Program program, Row input) {
            int code = program.codeAt(at);
            int n = program.numberAt(at);
            int next = at + 1;
            switch (code) {
                case PUSH: stack.push(n); break;
                case POP: stack.pop(); break;
                case TWICE: stack.push(stack.fromTop(0)); break;
                case SWAP: swap(); break;
                case OVER: stack.push(stack.fromTop(1)); break;
                case NOT: stack.push(truth(stack.pop() == 0)); break;
                case LOAD: stack.push(cells.get(n)); break;
                case STORE: cells.put(n, stack.pop()); break;
                case LOAD_AT: stack.push(cells.get(stack.pop())); break;
                case STORE_AT: storeAt(); break;
                case GO: next = n; break;
                case IF_NOT: next = stack.pop() == 0 ? n : next; break;
                case CALL: frames.push(next); next = n; break;
                case RETURN: next = frames.pop(); break;
                case READ: stack.push(readFrom(input)); break;
                case WRITE: output.push(stack.pop()); break;
                case HALT: status = HALTED; next = at; break;
                default: reckon(code); break;
            }
            at = next;
            clock++;
        }

        private void swap() {
            int b = stack.pop();
            int a = stack.pop();
            stack.push(b);
            stack.push(a);
        }

        private void storeAt() {
            int cell = stack.pop();
            cells.put(cell, stack.pop());
        }

        private int readFrom(Row input) {
            if (!input.has(read)) {
                return 0;
            }
            read++;
            return input.get(read - 1);
        }

        private void reckon(int code) {
            int b = stack.pop();
            int a = stack.pop();
            stack.push(reckoned(code, a, b));
        }

        private static int reckoned(int code, int a, int b) {
            switch (code) {
                case ADD: return a + b;
                case LESS: return a - b;
                case TIMES: return a * b;
                case PER: return b == 0 ? 0 : a / b;
                case IS_BELOW: return truth(a < b);
                case IS_SAME: return truth(a == b);
                default: return 0;
            }
        }

        /** Puts down what a STEP is about to do, and all that it can change. */
        void describe(Moment moment, Program program) {
            int code = program.codeAt(at);
            moment.at = at;
            moment.stackSize = stack.size();
            moment.top = stack.fromTop(0);
            moment.second = stack.fromTop(1);
            moment.frameCount = frames.size();
            moment.wayBack = frames.fromTop(0);
            moment.read = read;
            moment.outputSize = output.size();
            moment.cell = NONE;
            if (code == STORE) {
                moment.describeStore(program.numberAt(at), cells.get(program.numberAt(at)), moment.top);
            }
            if (code == STORE_AT) {
                moment.describeStore(moment.top, cells.get(moment.top), moment.second);
            }
        }

        void goBackTo(Moment moment) {
            at = moment.at;
            stack.resize(moment.stackSize);
            stack.putFromTop(0, moment.top);
            stack.putFromTop(1, moment.second);
            frames.resize(moment.frameCount);
            frames.putFromTop(0, moment.wayBack);
            read = moment.read;
            output.resize(moment.outputSize);
            cells.put(moment.cell, moment.before);
            status = READY;
            clock--;
        }

        long mixedInto(long before) {
            long d = stack.mixedFromTopInto(before);
            d = cells.mixedInto(d);
            d = frames.mixedFromTopInto(d);
            return output.mixedInto(d);
        }
    }

    /**
     * One STATE of the PAST with the STEP done behind it. No STEP touches more than the two numbers on top,
     * the FRAME opened last and one CELL, so with these it is undone without a copy of the whole STATE.
     */
    private static final class Moment {
        private int at;
        private int stackSize;
        private int top;
        private int second;
        private int frameCount;
        private int wayBack;
        private int read;
        private int outputSize;
        private int cell;
        private int before;
        private int after;

        void describeStore(int newCell, int oldNumber, int newNumber) {
            cell = newCell;
            before = oldNumber;
            after = newNumber;
        }

        boolean changed(int which) {
            return cell == which && before != after;
        }

        int tellOf(int what) {
            switch (what) {
                case 0: return at;
                case 1: return stackSize;
                case 2: return top;
                default: return frameCount;
            }
        }
    }

    /** The PAST: a ring, in which the newest takes the room of the oldest when it is full. */
    private static final class Past {
        private final Moment[] moments = new Moment[MOST_PAST];
        private int first;
        private int count;

        Past() {
            for (int i = 0; i < moments.length; i++) {
                moments[i] = new Moment();
            }
        }

        int size() {
            return count;
        }

        void clear() {
            first = 0;
            count = 0;
        }

        /** Adds a moment, for the caller to describe. */
        Moment newest() {
            if (count < MOST_PAST) {
                count++;
            } else {
                first = (first + 1) % MOST_PAST;
            }
            return moments[(first + count - 1) % MOST_PAST];
        }

        void dropLatest() {
            if (count > 0) {
                count--;
            }
        }

        Moment ago(int ago) {
            return ago >= 1 && ago <= count ? moments[(first + count - ago) % MOST_PAST] : null;
        }

        private int stepAt(int place) {
            Moment moment = ago(count - place);
            return moment == null ? NONE : moment.at;
        }

        int cellAgo(int cell, int ago, int now) {
            int number = now;
            for (int i = 1; i <= ago; i++) {
                Moment moment = ago(i);
                if (moment != null && moment.cell == cell) {
                    number = moment.before;
                }
            }
            return number;
        }

        int storedAgo(int cell) {
            for (int i = 1; i <= count; i++) {
                Moment moment = ago(i);
                if (moment != null && moment.cell == cell) {
                    return i;
                }
            }
            return 0;
        }

        void writeSteps(Row steps) {
            steps.resize(0);
            for (int place = 0; place < count; place++) {
                steps.push(stepAt(place));
            }
        }

        int firstOther(Row steps) {
            int both = Math.min(count, steps.size());
            for (int place = 0; place < both; place++) {
                if (stepAt(place) != steps.get(place)) {
                    return place;
                }
            }
            return NONE;
        }
    }

    /** A POINT. */
    private static final class Point {
        private int step;
        private int pass;
        private boolean isOn;
        private int how;
        private int cell;
        private int n;
        private int stops;

        void place(int newStep, int newPass) {
            step = newStep;
            pass = newPass;
            isOn = true;
        }

        boolean isHit(State state) {
            return isOn && step == state.at && state.status == READY && holds(state.cells.get(cell));
        }

        private boolean holds(int number) {
            switch (how) {
                case BELOW: return number < n;
                case EQUAL: return number == n;
                case ABOVE: return number > n;
                default: return true;
            }
        }

        boolean letsPass() {
            if (pass == 0) {
                return false;
            }
            pass--;
            return true;
        }
    }

    /** A WATCH. */
    private static final class Watch {
        private int cell;
        private int kind;
        private int n;

        void place(int newCell, int newKind, int newNumber) {
            cell = newCell;
            kind = newKind;
            n = newNumber;
        }

        boolean isMetBy(Moment done) {
            switch (kind) {
                case BECOMES_OTHER: return done.changed(cell);
                case IS_STORED: return done.cell == cell;
                default: return done.changed(cell) && done.after == n;
            }
        }
    }

    /** A RECORD. */
    private static final class Tape {
        private final Row steps = new Row(MOST_PAST);
        private final Row input = new Row(MOST_INPUT);
        private boolean isRecorded;
    }
}
