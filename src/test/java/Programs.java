/** The codes by name, and programs that several tests use. */
final class Programs {
    static final int PUSH = 0;
    static final int POP = 1;
    static final int TWICE = 2;
    static final int SWAP = 3;
    static final int OVER = 4;
    static final int ADD = 5;
    static final int LESS = 6;
    static final int TIMES = 7;
    static final int PER = 8;
    static final int IS_BELOW = 9;
    static final int IS_SAME = 10;
    static final int NOT = 11;
    static final int LOAD = 12;
    static final int STORE = 13;
    static final int LOAD_AT = 14;
    static final int STORE_AT = 15;
    static final int GO = 16;
    static final int IF_NOT = 17;
    static final int CALL = 18;
    static final int RETURN = 19;
    static final int READ = 20;
    static final int WRITE = 21;
    static final int HALT = 22;

    static final int AT = 0;
    static final int STATUS = 1;
    static final int CLOCK = 2;
    static final int ON_STACK = 3;
    static final int FRAMES = 4;
    static final int WAS_READ = 5;
    static final int IN_OUTPUT = 6;
    static final int PAST = 7;
    static final int REASON = 8;
    static final int CAUSE = 9;

    static final Class<IllegalArgumentException> ARGUMENT = IllegalArgumentException.class;
    static final Class<IllegalStateException> STATE = IllegalStateException.class;
    static final Class<IndexOutOfBoundsException> INDEX = IndexOutOfBoundsException.class;

    private Programs() {
    }

    /** A debugger with these STEPS: code, n, code, n, and so on. */
    static Lantern of(int... codesAndNumbers) {
        Lantern lantern = new Lantern();
        for (int i = 0; i < codesAndNumbers.length; i += 2) {
            lantern.step(codesAndNumbers[i], codesAndNumbers[i + 1]);
        }
        return lantern;
    }

    /** 0 to 4: CELL 0 becomes 1, 2, 3, and so on, five STEPS a round, without an end. */
    static Lantern counter() {
        return of(LOAD, 0, PUSH, 1, ADD, 0, STORE, 0, GO, 0);
    }

    /** 0 calls 3, 1 writes, 2 halts; 3 reads and calls 6, which squares; 5 and 8 return. */
    static Lantern caller() {
        return of(CALL, 3, WRITE, 0, HALT, 0, READ, 0, CALL, 6, RETURN, 0, TWICE, 0, TIMES, 0, RETURN, 0);
    }

    /** A checksum of what can be asked without a change, in seven calls, as an object has only 512. */
    static long seen(Lantern lantern) {
        long seen = lantern.digest();
        for (int place = 0; place < 3; place++) {
            seen = seen * 31 + parts(lantern, place);
        }
        for (int place = 0; place < 3; place++) {
            seen = seen * 31 + outputWith(lantern, place);
        }
        return seen;
    }

    private static long parts(Lantern lantern, int place) {
        try {
            return lantern.parts(place);
        } catch (IllegalStateException none) {
            return 1000;
        }
    }

    private static long outputWith(Lantern lantern, int place) {
        try {
            return lantern.outputWith(place, 12345 + place);
        } catch (IndexOutOfBoundsException none) {
            return 1000;
        }
    }
}
