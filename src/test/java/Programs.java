/** The codes by name, and programs that several tests use. */
final class Programs {
    static final int PUSH = 0;
    static final int POP = 1;
    static final int TWICE = 2;
    static final int SWAP = 3;
    static final int OVER = 4;
    static final int ADD = 5;
    static final int LESS = 6;
    static final int TIMES = 7;
    static final int PER = 8;
    static final int IS_BELOW = 9;
    static final int IS_SAME = 10;
    static final int NOT = 11;
    static final int LOAD = 12;
    static final int STORE = 13;
    static final int LOAD_AT = 14;
    static final int STORE_AT = 15;
    static final int GO = 16;
    static final int IF_NOT = 17;
    static final int CALL = 18;
    static final int RETURN = 19;
    static final int READ = 20;
    static final int WRITE = 21;
    static final int HALT = 22;

    static final int AT = 0;
    static final int STATUS = 1;
    static final int CLOCK = 2;
    static final int ON_STACK = 3;
    static final int FRAMES = 4;
    static final int WAS_READ = 5;
    static final int IN_OUTPUT = 6;
    static final int PAST = 7;
    static final int REASON = 8;
    static final int CAUSE = 9;

    static final Class<IllegalArgumentException> ARGUMENT = IllegalArgumentException.class;
    static final Class<IllegalStateException> STATE = IllegalStateException.class;
    static final Class<IndexOutOfBoundsException> INDEX = IndexOutOfBoundsException.class;

    private Programs() {
    }

    /** A debugger with these STEPS: code, n, code, n, and so on. */
    static Lantern of(int... codesAndNumbers) {
        Lantern lantern = new Lantern();
        add(lantern, codesAndNumbers);
        return lantern;
    }

    private static void add(Lantern lantern, int[] codesAndNumbers) {
        for (int i = 0; i < codesAndNumbers.length; i += 2) {
            lantern.step(codesAndNumbers[i], codesAndNumbers[i + 1]);
        }
    }

    /** 0 to 4: CELL 0 becomes 1, 2, 3, and so on, five STEPS a round, without an end. */
    static Lantern counter() {
        return of(LOAD, 0, PUSH, 1, ADD, 0, STORE, 0, GO, 0);
    }

    /** 0 calls 3, 1 writes, 2 halts; 3 reads and calls 6, which squares; 5 and 8 return. */
    static Lantern caller() {
        return of(CALL, 3, WRITE, 0, HALT, 0, READ, 0, CALL, 6, RETURN, 0, TWICE, 0, TIMES, 0, RETURN, 0);
    }

    /** So many times the same number on the STACK, with these STEPS behind. */
    static Lantern pushing(int many, int number, int... codesAndNumbers) {
        Lantern lantern = new Lantern();
        for (int i = 0; i < many; i++) {
            lantern.step(PUSH, number);
        }
        add(lantern, codesAndNumbers);
        return lantern;
    }

    /** These STEPS are done behind just so many others (8 at least), which count in CELL 0, eight a round. */
    static Lantern behind(int many, int... codesAndNumbers) {
        Lantern lantern = new Lantern();
        int ahead = many % 8;
        for (int i = 1; i <= ahead; i++) {
            lantern.step(GO, i);
        }
        int[] round = {LOAD, 0, PUSH, 1, ADD, 0, TWICE, 0, STORE, 0, PUSH, many / 8, IS_SAME, 0, IF_NOT, ahead};
        add(lantern, round);
        add(lantern, codesAndNumbers);
        return lantern;
    }

    /** So many CALLS, each within the one ahead of it, and a RETURN for each; 1 HALTS. */
    static Lantern nest(int calls) {
        Lantern lantern = of(CALL, 2, HALT, 0);
        for (int i = 1; i < calls; i++) {
            lantern.step(CALL, 2 * i + 2);
            lantern.step(RETURN, 0);
        }
        lantern.step(RETURN, 0);
        return lantern;
    }

    /** All of the STATE, and how large the PAST is. */
    static long[] shown(Lantern lantern) {
        long[] shown = new long[8 + 12 + 24 + 8 + 30];
        for (int what = 0; what < 8; what++) {
            shown[what] = lantern.told(what);
        }
        for (int cell = 0; cell < 12; cell++) {
            shown[8 + cell] = lantern.cell(cell);
        }
        for (int place = 0; place < lantern.told(ON_STACK); place++) {
            shown[20 + place] = lantern.stack(place);
        }
        for (int place = 0; place < lantern.told(FRAMES); place++) {
            shown[44 + place] = lantern.frame(place);
        }
        for (int place = 0; place < lantern.told(IN_OUTPUT); place++) {
            shown[52 + place] = lantern.output(place);
        }
        return shown;
    }

    /** A checksum of what can be asked without a change, in seven calls, as an object has only 512. */
    static long seen(Lantern lantern) {
        long seen = lantern.digest();
        for (int place = 0; place < 3; place++) {
            seen = seen * 31 + parts(lantern, place);
        }
        for (int place = 0; place < 3; place++) {
            seen = seen * 31 + outputWith(lantern, place);
        }
        return seen;
    }

    private static long parts(Lantern lantern, int place) {
        try {
            return lantern.parts(place);
        } catch (IllegalStateException none) {
            return 1000;
        }
    }

    private static long outputWith(Lantern lantern, int place) {
        try {
            return lantern.outputWith(place, 12345 + place);
        } catch (IndexOutOfBoundsException none) {
            return 1000;
        }
    }
}
