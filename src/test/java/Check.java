/** Counts answers that are not as due, and helps the tests to write sources and modules. */
class Check {
    static final int TRAP = 0, SET = 1, COPY = 2, ADD = 3, SUB = 4, XOR = 5, AND = 6, OR = 7, LOAD = 8, STORE = 9;
    static final int BEQ = 10, BLT = 11, GO = 12, JUMP = 13, HOST = 14, LABEL = 15;
    static final int EXIT = 0, OUT = 1, IN = 2, ALLOC = 3, PRINT = 4, SEND = 5, RECEIVE = 6;
    static final int MOST_I = 2097151;
    static final int LEAST_I = -2097152;

    /** No call may fail to end; a test that is not through by then has met one that does. */
    private static final long MOST_MILLISECONDS = 200_000;

    private int made;
    private int wrong;
    private String sentence = "";

    Check() {
        Thread watch = new Thread(Check::endLate);
        watch.setDaemon(true);
        watch.start();
    }

    private static void endLate() {
        try {
            Thread.sleep(MOST_MILLISECONDS);
        } catch (InterruptedException stillThere) {
            Thread.currentThread().interrupt();
        }
        System.out.println("a call does not come to an end");
        Runtime.getRuntime().halt(1);
    }

    void same(String what, long got, long want) {
        made++;
        if (got != want) {
            wrong++;
            System.out.println(sentence + what + " answered " + got + ", due is " + want);
        }
    }

    void yes(String what, boolean got) {
        same(what, got ? 1 : 0, 1);
    }

    void no(String what, boolean got) {
        same(what, got ? 1 : 0, 0);
    }

    void sameText(String what, String got, String want) {
        made++;
        if (!got.equals(want)) {
            wrong++;
            System.out.println(sentence + what + " answered\n  " + got + ", due is\n  " + want);
        }
    }

    /** The test that belongs to one sentence of the document; whatever is not as due in it is told with the sentence. */
    void sentence(String text, Runnable test) {
        int before = made;
        sentence = "\"" + text + "\": ";
        test.run();
        if (made == before) {
            wrong++;
            System.out.println(sentence + "nothing was checked");
        }
        sentence = "";
    }

    void end() {
        System.out.println(made + " checks, " + wrong + " not as due");
        if (made == 0 || wrong != 0) {
            System.exit(1);
        }
    }

    /** What stands for "too small" and "too large" where the document names a range that begins with 0. */
    static int[] outside(int most) {
        return new int[] {-1, -2, most + 1, most + 2, 1000, Integer.MAX_VALUE, Integer.MIN_VALUE};
    }

    static int w(int op, int a, int b, int i) {
        return i * 1024 + b * 128 + a * 16 + op;
    }

    /** Four numbers a line: op, a, b, i. */
    static void lines(Fenced x, int... fields) {
        for (int f = 0; f < fields.length; f += 4) {
            if (!x.line(fields[f], fields[f + 1], fields[f + 2], fields[f + 3])) {
                throw new IllegalStateException("a line of a test was refused");
            }
        }
    }

    static void words(Fenced x, int... words) {
        for (int word : words) {
            if (!x.word(word)) {
                throw new IllegalStateException("a word of a test was refused");
            }
        }
    }

    static Fenced withLines(int... fields) {
        Fenced x = new Fenced();
        lines(x, fields);
        return x;
    }

    static Fenced withWords(int... words) {
        Fenced x = new Fenced();
        words(x, words);
        return x;
    }

    /** Rewrites and loads what the lines say. */
    static Fenced loaded(int k, int... fields) {
        Fenced x = withLines(fields);
        install(x, k);
        return x;
    }

    static void install(Fenced x, int k) {
        if (x.rewrite(k) < 1 || !x.load(k)) {
            throw new IllegalStateException("a source of a test was not loaded");
        }
    }

    static void replace(Fenced x, int k, int... fields) {
        x.clear();
        lines(x, fields);
        install(x, k);
    }

    /** The words of the module, as a text. */
    static String module(Fenced x) {
        StringBuilder text = new StringBuilder();
        for (int p = 0; p < x.module(-1); p++) {
            text.append(x.module(p)).append(' ');
        }
        return text.toString();
    }

    static String text(int... words) {
        StringBuilder text = new StringBuilder();
        for (int word : words) {
            text.append(word).append(' ');
        }
        return text.toString();
    }

    /** All that can be asked without changing anything. */
    static String picture(Fenced x) {
        StringBuilder text = new StringBuilder("module ").append(module(x));
        for (int k = 0; k < 3; k++) {
            text.append("\nsandbox ").append(k).append(": ").append(x.state(k)).append(" at ").append(x.pc(k));
            text.append(" registers");
            for (int r = 0; r < 8; r++) {
                text.append(' ').append(x.register(k, r));
            }
            text.append(" outputs");
            for (int j = -1; j < 8; j++) {
                text.append(' ').append(x.output(k, j));
            }
            text.append(" calls");
            for (int j = -1; j < 16; j++) {
                text.append(' ').append(x.call(k, j, 0)).append(',').append(x.call(k, j, 1)).append(',').append(x.call(k, j, 2));
            }
            text.append(" unsafe ").append(x.verify(k));
        }
        text.append("\nmemory");
        for (int address = 0; address < 256; address++) {
            text.append(' ').append(x.peek(address));
        }
        text.append("\ntrace");
        for (int j = -1; j < 16; j++) {
            text.append(' ').append(x.trace(j, 0)).append(',').append(x.trace(j, 1)).append(',').append(x.trace(j, 2));
        }
        return text.toString();
    }
}
