/** Promises 16 and 17: output and call; and the host's answers. */
public final class HostTest {
    private static final Check check = new Check();

    public static void main(String[] args) {
        exitKeepsItsRegisters();
        outPutsOut();
        inTakesInOrder();
        allocGrows();
        printPutsOutInOrder();
        printRefuses();
        sendAndReceive();
        sendRefuses();
        sendToSandboxesThatEnded();
        outputKeepsTheLatestEight();
        callKeepsTheFirstSixteen();
        questionsOutOfRange();
        check.end();
    }

    /** Sets r1 and r2, then calls the host; r1 is the answer. */
    private static Fenced asked(int k, int number, int r1, int r2) {
        Fenced x = Check.withWords(Check.w(Check.SET, 1, 0, r1), Check.w(Check.SET, 2, 0, r2), Check.w(Check.HOST, 0, 0, number));
        x.load(k);
        x.run(3);
        return x;
    }

    private static void noted(String what, Fenced x, int k, int j, int... fields) {
        check.sameText(what, Check.text(x.call(k, j, 0), x.call(k, j, 1), x.call(k, j, 2)), Check.text(fields));
    }

    private static void exitKeepsItsRegisters() {
        Fenced x = asked(1, Check.EXIT, 41, 42);
        check.same("state", x.state(1), 2);
        check.same("pc stays", x.pc(1), 98);
        check.same("r1 stays", x.register(1, 1), 41);
        check.same("it is noted", x.call(1, -1, 0), 1);
        noted("without arguments", x, 1, 0, 0, 0, 0);
    }

    private static void outPutsOut() {
        Fenced x = asked(2, Check.OUT, 41, 42);
        check.same("answer", x.register(2, 1), 0);
        check.same("r2 stays", x.register(2, 2), 42);
        check.same("pc goes on", x.pc(2), 131);
        check.same("put out", x.output(2, 0), 41);
        check.same("how many", x.output(2, -1), 1);
        noted("one argument", x, 2, 0, 1, 41, 0);
        check.same("another put nothing out", x.output(0, -1) + x.output(1, -1), 0);
    }

    private static void inTakesInOrder() {
        Fenced x = asked(0, Check.IN, 41, 42);
        check.same("no input", x.register(0, 1), -1);
        noted("no argument", x, 0, 0, 2, 0, 0);
        Fenced y = Check.loaded(0, Check.HOST, 0, 0, Check.IN, Check.COPY, 2, 1, 0, Check.HOST, 0, 0, Check.IN,
            Check.COPY, 3, 1, 0, Check.HOST, 0, 0, Check.IN, Check.COPY, 4, 1, 0, Check.HOST, 0, 0, Check.IN);
        y.feed(0, 7);
        y.feed(0, -1);
        y.run(6);
        check.same("first", y.register(0, 2), 7);
        check.same("second", y.register(0, 3), -1);
        check.same("none left", y.register(0, 4), -1);
        y.feed(0, 9);
        y.run(1);
        check.same("one that came later", y.register(0, 1), 9);
        check.same("all are noted", y.call(0, -1, 0), 4);
    }

    private static void allocGrows() {
        Fenced x = asked(0, Check.ALLOC, 16, 42);
        check.same("all at once", x.register(0, 1), 0);
        noted("one argument", x, 0, 0, 3, 16, 0);
        for (int size : new int[] {17, 0, -1, Check.LEAST_I, Check.MOST_I}) {
            check.same("ALLOC " + size, asked(0, Check.ALLOC, size, 1).register(0, 1), -1);
        }
        int[] sizes = {4, 0, 5, 8, 6, 2, 1, 1, -3};
        int[] due = {0, -1, 4, -1, 9, -1, 15, -1, -1};
        Fenced y = new Fenced();
        for (int size : sizes) {
            Check.words(y, Check.w(Check.SET, 1, 0, size), Check.w(Check.HOST, 0, 0, Check.ALLOC));
        }
        y.load(2);
        for (int n = 0; n < sizes.length; n++) {
            y.run(2);
            check.same("ALLOC " + sizes[n], y.register(2, 1), due[n]);
            noted("ALLOC " + sizes[n], y, 2, n, 3, sizes[n], 0);
        }
    }

    /** Word p of the data is 10 + p, for p = 0 .. 3 and 15; then PRINT. */
    private static Fenced printed(int k, int start, int length) {
        Fenced x = Check.withLines(Check.SET, 0, 0, 10, Check.STORE, 0, 4, 0, Check.SET, 0, 0, 11, Check.STORE, 0, 4, 1,
            Check.SET, 0, 0, 12, Check.STORE, 0, 4, 2, Check.SET, 0, 0, 25, Check.STORE, 0, 4, 15,
            Check.SET, 1, 0, start, Check.SET, 2, 0, length, Check.HOST, 0, 0, Check.PRINT, Check.HOST, 0, 0, Check.EXIT);
        Check.install(x, k);
        x.run(500);
        return x;
    }

    private static void printPutsOutInOrder() {
        for (int k = 0; k < 3; k++) {
            Fenced x = printed(k, 0, 3);
            check.same("answer", x.register(k, 1), 3);
            check.same("how many", x.output(k, -1), 3);
            check.sameText("in order", Check.text(x.output(k, 2), x.output(k, 1), x.output(k, 0)), Check.text(10, 11, 12));
            noted("two arguments", x, k, 0, 4, 0, 3);
            Fenced last = printed(k, 15, 1);
            check.same("the last word", last.output(k, 0), 25);
            Fenced all = printed(k, 0, 16);
            check.same("all words", all.output(k, -1), 16);
            check.same("the latest of all", all.output(k, 0), 25);
            check.same("all: answer", all.register(k, 1), 16);
            Fenced inner = printed(k, 1, 1);
            check.same("an inner word", inner.output(k, 0), 11);
        }
        for (int start : new int[] {0, 5, 16}) {
            Fenced none = printed(1, start, 0);
            check.same("none: answer", none.register(1, 1), 0);
            check.same("none: how many", none.output(1, -1), 0);
        }
    }

    private static void printRefuses() {
        int[][] wrong = {{17, 0}, {16, 1}, {0, 17}, {8, 9}, {-1, 1}, {1, -1}, {-1, 17}, {17, -1}, {Check.MOST_I, 1}, {1, Check.MOST_I}, {0, -1}};
        for (int[] f : wrong) {
            Fenced x = printed(0, f[0], f[1]);
            check.same("PRINT " + f[0] + ", " + f[1], x.register(0, 1), -1);
            check.same("nothing is put out", x.output(0, -1), 0);
            noted("it is noted", x, 0, 0, 4, f[0], f[1]);
        }
        Fenced y = new Fenced();
        Check.words(y, Check.w(Check.SET, 1, 0, 1 << 20));
        for (int n = 0; n < 10; n++) {
            Check.words(y, Check.w(Check.ADD, 1, 1, 0));
        }
        Check.words(y, Check.w(Check.COPY, 2, 1, 0), Check.w(Check.HOST, 0, 0, Check.PRINT));
        y.load(0);
        y.run(13);
        check.same("PRINT whose sum wraps: argument", y.call(0, 0, 1), 1 << 30);
        check.same("PRINT whose sum wraps", y.register(0, 1), -1);
    }

    private static void sendAndReceive() {
        Fenced x = Check.withLines(Check.SET, 1, 0, 2, Check.SET, 2, 0, 50, Check.HOST, 0, 0, Check.SEND,
            Check.COPY, 3, 1, 0, Check.SET, 1, 0, 2, Check.SET, 2, 0, 51, Check.HOST, 0, 0, Check.SEND, Check.HOST, 0, 0, Check.EXIT);
        Check.install(x, 0);
        Check.replace(x, 2, Check.HOST, 0, 0, Check.RECEIVE, Check.COPY, 2, 1, 0, Check.HOST, 0, 0, Check.RECEIVE,
            Check.COPY, 3, 1, 0, Check.HOST, 0, 0, Check.RECEIVE, Check.COPY, 4, 1, 0, Check.HOST, 0, 0, Check.EXIT);
        x.run(500);
        check.same("answer of SEND", x.register(0, 3), 0);
        noted("SEND is noted", x, 0, 0, 5, 2, 50);
        noted("SEND is noted", x, 0, 1, 5, 2, 51);
        check.same("the first word", x.register(2, 2), 50);
        noted("RECEIVE is noted", x, 2, 0, 6, 0, 0);
    }

    private static void sendRefuses() {
        Fenced x = new Fenced();
        for (int k : new int[] {-1, 3, 0, 2, Check.MOST_I, Check.LEAST_I}) {
            Fenced y = asked(1, Check.SEND, k, 5);
            check.same("SEND to " + k, y.register(1, 1), -1);
            noted("it is noted", y, 1, 0, 5, k, 5);
        }
        for (int n = 0; n < 5; n++) {
            Check.words(x, Check.w(Check.SET, 1, 0, 1), Check.w(Check.SET, 2, 0, 60 + n), Check.w(Check.HOST, 0, 0, Check.SEND));
        }
        for (int n = 0; n < 6; n++) {
            Check.words(x, Check.w(Check.HOST, 0, 0, Check.RECEIVE));
        }
        x.load(1);
        for (int n = 0; n < 5; n++) {
            x.run(3);
            check.same("SEND " + n + " to itself", x.register(1, 1), n < 4 ? 0 : -1);
        }
        for (int n = 0; n < 6; n++) {
            x.run(1);
            check.same("RECEIVE " + n, x.register(1, 1), n < 4 ? 60 + n : -1);
        }
        mailboxTakesAgain();
    }

    private static void mailboxTakesAgain() {
        int set2 = Check.w(Check.COPY, 2, 2, 1);
        int to0 = Check.w(Check.SET, 1, 0, 0);
        int send = Check.w(Check.HOST, 0, 0, Check.SEND);
        int receive = Check.w(Check.HOST, 0, 0, Check.RECEIVE);
        Fenced x = Check.withWords(set2, to0, send, set2, to0, send, receive, set2, to0, send, set2, to0, send,
            set2, to0, send, set2, to0, send, receive, receive, receive, receive, receive);
        x.load(0);
        x.run(7);
        check.same("the oldest", x.register(0, 1), 1);
        x.run(9);
        check.same("three more fit", x.register(0, 1), 0);
        x.run(3);
        check.same("a fifth does not", x.register(0, 1), -1);
        for (int n = 0; n < 5; n++) {
            x.run(1);
            check.same("in order", x.register(0, 1), n < 4 ? 2 + n : -1);
        }
    }

    private static void sendToSandboxesThatEnded() {
        Fenced x = new Fenced();
        x.load(1);
        Check.words(x, Check.w(Check.HOST, 0, 0, Check.EXIT));
        x.load(2);
        x.run(2);
        check.same("1 is trapped", x.state(1), 3);
        check.same("2 is over", x.state(2), 2);
        for (int k = 1; k < 3; k++) {
            x.clear();
            Check.words(x, Check.w(Check.SET, 1, 0, k), Check.w(Check.HOST, 0, 0, Check.SEND));
            x.load(0);
            x.run(2);
            check.same("SEND to one that ended", x.register(0, 1), 0);
        }
    }

    private static void outputKeepsTheLatestEight() {
        Fenced x = Check.withWords(Check.w(Check.COPY, 3, 3, 1), Check.w(Check.COPY, 1, 3, 0), Check.w(Check.HOST, 0, 0, Check.OUT), Check.w(Check.GO, 0, 0, -4));
        x.load(0);
        for (int n = 1; n <= 40; n++) {
            x.run(4);
            check.same("how many", x.output(0, -1), n);
            for (int j = 0; j < 8; j++) {
                check.same("output " + j + " of " + n, x.output(0, j), j < n ? n - j : 0);
            }
            check.same("output 8", x.output(0, 8), 0);
        }
        x.run(500);
        check.same("how many in the end", x.output(0, -1), 165);
        check.same("output 7 in the end", x.output(0, 7), 158);
        x.load(0);
        for (int j = -1; j < 8; j++) {
            check.same("output " + j + " after loading", x.output(0, j), 0);
        }
    }

    private static void callKeepsTheFirstSixteen() {
        Fenced x = Check.withWords(Check.w(Check.COPY, 3, 3, 1), Check.w(Check.COPY, 1, 3, 0), Check.w(Check.HOST, 0, 0, Check.OUT), Check.w(Check.GO, 0, 0, -4));
        x.load(1);
        for (int n = 1; n <= 20; n++) {
            x.run(4);
            check.same("how many", x.call(1, -1, 0), n);
            for (int j = 0; j < 20; j++) {
                boolean kept = j < n && j < 16;
                noted("call " + j + " of " + n, x, 1, j, kept ? 1 : 0, kept ? j + 1 : 0, 0);
            }
        }
        for (int what : new int[] {0, 1, 2, 3, -1, Integer.MAX_VALUE, Integer.MIN_VALUE}) {
            check.same("how many, with what " + what, x.call(1, -1, what), 20);
        }
        x.load(1);
        for (int j = -1; j < 16; j++) {
            noted("call " + j + " after loading", x, 1, j, 0, 0, 0);
        }
    }

    private static void questionsOutOfRange() {
        Fenced x = asked(1, Check.PRINT, 1, 2);
        for (int what : new int[] {-1, 3, Integer.MAX_VALUE, Integer.MIN_VALUE}) {
            check.same("call(1, 0, " + what + ")", x.call(1, 0, what), 0);
        }
        for (int j : new int[] {-2, 1, 16, Integer.MAX_VALUE, Integer.MIN_VALUE}) {
            check.same("call(1, " + j + ", 0)", x.call(1, j, 0), 0);
        }
        for (int j : new int[] {-2, 8, Integer.MAX_VALUE, Integer.MIN_VALUE}) {
            check.same("output(1, " + j + ")", x.output(1, j), 0);
        }
        for (int k : new int[] {-1, 3, Integer.MAX_VALUE, Integer.MIN_VALUE}) {
            for (int j = -1; j < 2; j++) {
                check.same("call(" + k + ", " + j + ", 0)", x.call(k, j, 0), 0);
                check.same("output(" + k + ", " + j + ")", x.output(k, j), 0);
            }
        }
    }
}
