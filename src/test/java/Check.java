/** Counts answers that are not as due, and helps the tests to write sources and modules. */
final class Check {
    static final int TRAP = 0, SET = 1, COPY = 2, ADD = 3, SUB = 4, XOR = 5, AND = 6, OR = 7, LOAD = 8, STORE = 9;
    static final int BEQ = 10, BLT = 11, GO = 12, JUMP = 13, HOST = 14, LABEL = 15;
    static final int EXIT = 0, OUT = 1, IN = 2, ALLOC = 3, PRINT = 4, SEND = 5, RECEIVE = 6;
    static final int MOST_I = 2097151;
    static final int LEAST_I = -2097152;

    private int made;
    private int wrong;

    void same(String what, long got, long want) {
        made++;
        if (got != want) {
            wrong++;
            System.out.println(what + " answered " + got + ", due is " + want);
        }
    }

    void yes(String what, boolean got) {
        same(what, got ? 1 : 0, 1);
    }

    void no(String what, boolean got) {
        same(what, got ? 1 : 0, 0);
    }

    void sameText(String what, String got, String want) {
        made++;
        if (!got.equals(want)) {
            wrong++;
            System.out.println(what + " answered\n  " + got + ", due is\n  " + want);
        }
    }

    void end() {
        System.out.println(made + " checks, " + wrong + " not as due");
        if (made == 0 || wrong != 0) {
            System.exit(1);
        }
    }

    static int w(int op, int a, int b, int i) {
        return i * 1024 + b * 128 + a * 16 + op;
    }

    /** Four numbers a line: op, a, b, i. */
    static void lines(FencedModules x, int... fields) {
        for (int f = 0; f < fields.length; f += 4) {
            if (!x.line(fields[f], fields[f + 1], fields[f + 2], fields[f + 3])) {
                throw new IllegalStateException("a line of a test was refused");
            }
        }
    }

    static void words(FencedModules x, int... words) {
        for (int word : words) {
            if (!x.word(word)) {
                throw new IllegalStateException("a word of a test was refused");
            }
        }
    }

    static FencedModules withLines(int... fields) {
        FencedModules x = new FencedModules();
        lines(x, fields);
        return x;
    }

    static FencedModules withWords(int... words) {
        FencedModules x = new FencedModules();
        words(x, words);
        return x;
    }

    /** Rewrites and loads what the lines say. */
    static FencedModules loaded(int k, int... fields) {
        FencedModules x = withLines(fields);
        install(x, k);
        return x;
    }

    static void install(FencedModules x, int k) {
        if (x.rewrite(k) < 1 || !x.load(k)) {
            throw new IllegalStateException("a source of a test was not loaded");
        }
    }

    static void replace(FencedModules x, int k, int... fields) {
        x.clear();
        lines(x, fields);
        install(x, k);
    }

    /** The words of the module, as a text. */
    static String module(FencedModules x) {
        StringBuilder text = new StringBuilder();
        for (int p = 0; p < x.module(-1); p++) {
            text.append(x.module(p)).append(' ');
        }
        return text.toString();
    }

    static String text(int... words) {
        StringBuilder text = new StringBuilder();
        for (int word : words) {
            text.append(word).append(' ');
        }
        return text.toString();
    }

    /** All that can be asked without changing anything. */
    static String picture(FencedModules x) {
        StringBuilder text = new StringBuilder("module ").append(module(x));
        for (int k = 0; k < 3; k++) {
            text.append("\nsandbox ").append(k).append(": ").append(x.state(k)).append(" at ").append(x.pc(k));
            text.append(" registers");
            for (int r = 0; r < 8; r++) {
                text.append(' ').append(x.register(k, r));
            }
            text.append(" outputs");
            for (int j = -1; j < 8; j++) {
                text.append(' ').append(x.output(k, j));
            }
            text.append(" calls");
            for (int j = -1; j < 16; j++) {
                text.append(' ').append(x.call(k, j, 0)).append(',').append(x.call(k, j, 1)).append(',').append(x.call(k, j, 2));
            }
            text.append(" unsafe ").append(x.verify(k));
        }
        text.append("\nmemory");
        for (int address = 0; address < 256; address++) {
            text.append(' ').append(x.peek(address));
        }
        text.append("\ntrace");
        for (int j = -1; j < 16; j++) {
            text.append(' ').append(x.trace(j, 0)).append(',').append(x.trace(j, 1)).append(',').append(x.trace(j, 2));
        }
        return text.toString();
    }
}
