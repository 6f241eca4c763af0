/** Promises 10 to 15: feed, run, state, pc, register, peek; and the instructions. */
public final class MachineTest {
    private static final Check check = new Check();

    public static void main(String[] args) {
        feedTakesTwelve();
        feedOfSandboxesThatEnded();
        runTakesItsRange();
        runCountsSteps();
        turnsOfThreeSteps();
        turnsGoOnInTheNextRun();
        turnMovesAtOnce();
        turnStaysWhenNoneRuns();
        turnAfterAnEnd();
        loadingBeginsTheTurnAnew();
        plainInstructions();
        sumsWrap();
        branches();
        jumpsAndTheEndOfTheCode();
        accesses();
        statesAndPlaces();
        questionsOutOfRange();
        check.end();
    }

    /** A loop of one word, which counts nothing but steps. */
    private static final int ROUND = Check.w(Check.GO, 0, 0, -1);

    private static void feedTakesTwelve() {
        Fenced x = Check.loaded(1, Check.HOST, 0, 0, Check.IN, Check.HOST, 0, 0, Check.IN);
        for (int n = 0; n < 6; n++) {
            check.yes("feed", x.feed(1, 100 + n));
        }
        x.run(1);
        check.same("the first input", x.register(1, 1), 100);
        for (int n = 6; n < 12; n++) {
            check.yes("feed", x.feed(1, 100 + n));
        }
        check.no("feed of a thirteenth, though one was taken", x.feed(1, 112));
        check.no("feed of an empty one", x.feed(0, 1));
        for (int k : new int[] {-1, 3, Integer.MAX_VALUE, Integer.MIN_VALUE}) {
            check.no("feed(" + k + ")", x.feed(k, 1));
        }
        x.run(1);
        check.same("the second input", x.register(1, 1), 101);
        x.load(1);
        check.yes("feed after loading", x.feed(1, 7));
    }

    private static void feedOfSandboxesThatEnded() {
        Fenced x = Check.withWords();
        x.load(0);
        Check.words(x, Check.w(Check.HOST, 0, 0, Check.EXIT));
        x.load(1);
        x.run(5);
        check.same("trapped", x.state(0), 3);
        check.same("over", x.state(1), 2);
        for (int n = 0; n < 12; n++) {
            check.yes("feed of a trapped one", x.feed(0, n));
            check.yes("feed of one that is over", x.feed(1, n));
        }
        check.no("feed of a trapped one", x.feed(0, 12));
        check.no("feed of one that is over", x.feed(1, 12));
    }

    private static void runTakesItsRange() {
        Fenced x = Check.withWords(ROUND);
        x.load(0);
        Check.words(x, 0);
        check.same("run(500)", x.run(500), 500);
        check.same("run(0)", x.run(0), 0);
        for (int n : new int[] {-1, 501, Integer.MAX_VALUE, Integer.MIN_VALUE}) {
            String before = Check.picture(x);
            check.same("run(" + n + ")", x.run(n), -1);
            check.sameText("a refused run changes nothing", Check.picture(x), before);
        }
    }

    private static void runCountsSteps() {
        Fenced x = Check.withWords(Check.w(Check.SET, 1, 0, 5), Check.w(Check.SET, 2, 0, 6), Check.w(Check.HOST, 0, 0, 0));
        check.same("run with none loaded", x.run(7), 0);
        x.load(2);
        check.same("run(2)", x.run(2), 2);
        check.same("r2", x.register(2, 2), 6);
        check.same("still running", x.state(2), 1);
        check.same("run to the end", x.run(7), 1);
        check.same("over", x.state(2), 2);
        check.same("run when all is over", x.run(7), 0);
    }

    /** Each sandbox counts its steps in r1, so that the turns can be seen. */
    private static Fenced counters(int... sandboxes) {
        Fenced x = new Fenced();
        for (int n = 0; n < 30; n++) {
            x.word(Check.w(Check.COPY, 1, 1, 1));
        }
        for (int k : sandboxes) {
            x.load(k);
        }
        return x;
    }

    private static void steps(String when, Fenced x, int zero, int one, int two) {
        check.sameText(when, Check.text(x.register(0, 1), x.register(1, 1), x.register(2, 1)), Check.text(zero, one, two));
    }

    private static void turnsOfThreeSteps() {
        Fenced x = counters(0, 1, 2);
        int[] made = new int[3];
        for (int n = 0; n < 27; n++) {
            check.same("run(1)", x.run(1), 1);
            made[n / 3 % 3]++;
            steps("turns of three", x, made[0], made[1], made[2]);
        }
        Fenced y = counters(2, 0);
        y.run(3);
        steps("0 first", y, 3, 0, 0);
        y.run(2);
        steps("1 is passed over", y, 3, 0, 2);
        y.run(2);
        steps("then 0 again", y, 4, 0, 3);
    }

    private static void turnsGoOnInTheNextRun() {
        Fenced x = counters(0, 1);
        x.run(2);
        steps("two of three", x, 2, 0, 0);
        x.run(0);
        x.run(2);
        steps("the third, and one of the next", x, 3, 1, 0);
        x.run(3);
        steps("two more, and one of the next", x, 4, 3, 0);
    }

    private static void turnMovesAtOnce() {
        Fenced x = counters(0);
        x.run(3);
        x.load(0);
        x.load(1);
        x.run(3);
        steps("it was 1's turn already", x, 0, 3, 0);
        Fenced y = counters(0);
        y.run(2);
        y.load(1);
        y.run(2);
        steps("it was still 0's turn", y, 3, 1, 0);
        Fenced z = counters(2);
        z.run(4);
        z.load(0);
        z.load(1);
        z.run(3);
        steps("a turn that came back to 2 goes on", z, 1, 0, 6);
    }

    private static void turnStaysWhenNoneRuns() {
        Fenced x = counters(1);
        check.same("to its trap", x.run(500), 31);
        check.same("none runs", x.run(5), 0);
        x.load(0);
        x.load(1);
        x.load(2);
        x.run(3);
        steps("it stayed 2's turn", x, 0, 0, 3);
        Fenced y = counters();
        y.run(5);
        y.load(1);
        y.load(0);
        y.run(1);
        steps("it stayed 0's turn", y, 1, 0, 0);
    }

    private static void turnAfterAnEnd() {
        Fenced x = new Fenced();
        Check.words(x, Check.w(Check.HOST, 0, 0, 0));
        x.load(0);
        x.clear();
        x.load(1);
        for (int n = 0; n < 30; n++) {
            x.word(Check.w(Check.COPY, 1, 1, 1));
        }
        x.load(2);
        check.same("run(1)", x.run(1), 1);
        check.same("0 is over after its step", x.state(0), 2);
        check.same("1 not yet", x.state(1), 1);
        check.same("run(1)", x.run(1), 1);
        check.same("1 is trapped after its step", x.state(1), 3);
        x.load(0);
        x.load(1);
        x.run(3);
        steps("then it is 2's turn", x, 0, 0, 3);
    }

    private static void loadingBeginsTheTurnAnew() {
        Fenced x = counters(0, 1);
        x.run(2);
        x.load(0);
        x.run(4);
        steps("three steps after loading", x, 3, 1, 0);
        Fenced y = counters(0, 1);
        y.run(2);
        y.load(1);
        y.run(2);
        steps("another one's loading does not count", y, 3, 1, 0);
    }

    /** Runs the words in sandbox k one after another. */
    private static Fenced done(int k, int... words) {
        Fenced x = Check.withWords(words);
        if (!x.load(k)) {
            throw new IllegalStateException("words of a test were not loaded");
        }
        x.run(words.length);
        return x;
    }

    private static void plainInstructions() {
        int set1 = Check.w(Check.SET, 1, 0, 12);
        int set2 = Check.w(Check.SET, 2, 0, 10);
        for (int r = 0; r < 6; r++) {
            check.same("SET of r" + r, done(0, Check.w(Check.SET, r, 3, -77)).register(0, r), -77);
        }
        check.same("SET the most", done(0, Check.w(Check.SET, 5, 3, Check.MOST_I)).register(0, 5), Check.MOST_I);
        check.same("SET the least", done(0, Check.w(Check.SET, 5, 3, Check.LEAST_I)).register(0, 5), Check.LEAST_I);
        check.same("COPY", done(0, set2, Check.w(Check.COPY, 1, 2, -3)).register(0, 1), 7);
        check.same("COPY of itself", done(0, set2, Check.w(Check.COPY, 2, 2, 5)).register(0, 2), 15);
        check.same("ADD", done(0, set1, set2, Check.w(Check.ADD, 1, 2, 99)).register(0, 1), 22);
        check.same("ADD to itself", done(0, set1, Check.w(Check.ADD, 1, 1, 0)).register(0, 1), 24);
        check.same("SUB", done(0, set1, set2, Check.w(Check.SUB, 1, 2, 99)).register(0, 1), 2);
        check.same("SUB the other way", done(0, set1, set2, Check.w(Check.SUB, 2, 1, 0)).register(0, 2), -2);
        check.same("XOR", done(0, set1, set2, Check.w(Check.XOR, 1, 2, 99)).register(0, 1), 6);
        check.same("AND", done(0, set1, set2, Check.w(Check.AND, 1, 2, 3)).register(0, 1), 2);
        check.same("AND with a negative i", done(0, set2, Check.w(Check.AND, 1, 2, -3)).register(0, 1), 8);
        check.same("OR", done(0, set1, set2, Check.w(Check.OR, 1, 2, 5)).register(0, 1), 15);
        check.same("OR with a negative i", done(0, set2, Check.w(Check.OR, 1, 2, -16)).register(0, 1), -6);
        check.same("rb stays", done(0, set1, set2, Check.w(Check.ADD, 1, 2, 0)).register(0, 2), 10);
        check.same("pc after plain words", done(2, set1, set2).pc(2), 130);
        check.same("r6 as a source", done(2, Check.w(Check.COPY, 3, 6, 1)).register(2, 3), 33);
        check.same("r7 as a source", done(2, Check.w(Check.COPY, 3, 7, 1)).register(2, 3), 129);
    }

    private static void sumsWrap() {
        int[] doubling = new int[13];
        doubling[0] = Check.w(Check.SET, 1, 0, 1 << 20);
        for (int n = 1; n < 12; n++) {
            doubling[n] = Check.w(Check.ADD, 1, 1, 0);
        }
        doubling[12] = Check.w(Check.COPY, 2, 1, -1);
        Fenced x = done(0, doubling);
        check.same("doubled to the least int", x.register(0, 1), Integer.MIN_VALUE);
        check.same("one less wraps", x.register(0, 2), Integer.MAX_VALUE);
        doubling[12] = Check.w(Check.SUB, 2, 1, 0);
        check.same("SUB wraps", done(0, doubling).register(0, 2), Integer.MIN_VALUE);
    }

    private static int placeAfterBranch(int op, int left, int right) {
        Fenced x = Check.withWords(Check.w(Check.SET, 1, 0, left), Check.w(Check.SET, 2, 0, right), Check.w(op, 1, 2, 2), 0, 0, 0);
        x.load(0);
        x.run(3);
        return x.pc(0);
    }

    private static void branches() {
        check.same("BEQ of equals", placeAfterBranch(Check.BEQ, 5, 5), 69);
        check.same("BEQ of others", placeAfterBranch(Check.BEQ, 5, 6), 67);
        check.same("BLT of less", placeAfterBranch(Check.BLT, -1, 0), 69);
        check.same("BLT of equals", placeAfterBranch(Check.BLT, 5, 5), 67);
        check.same("BLT of more", placeAfterBranch(Check.BLT, 6, 5), 67);
        check.same("GO", placeAfterBranch(Check.GO, 6, 5), 69);
        Fenced x = Check.withWords(Check.w(Check.SET, 1, 0, 0), Check.w(Check.BEQ, 0, 1, -2));
        x.load(2);
        x.run(2);
        check.same("BEQ backward", x.pc(2), 128);
        Fenced y = Check.withWords(0, 0);
        y.clear();
        Check.words(y, Check.w(Check.GO, 3, 3, 1), 0, ROUND);
        y.load(1);
        y.run(1);
        check.same("GO forward", y.pc(1), 98);
        y.run(1);
        check.same("GO to itself", y.pc(1), 98);
    }

    private static void jumpsAndTheEndOfTheCode() {
        int e = 96;
        Fenced x = Check.withWords(Check.w(Check.SET, 1, 0, 1000), Check.w(Check.AND, 7, 1, 31), Check.w(Check.OR, 7, 7, e), Check.w(Check.JUMP, 7, 0, 0));
        x.load(1);
        x.run(4);
        check.same("JUMP to 1000 & 31", x.pc(1), e + 8);
        check.same("r7", x.register(1, 7), e + 8);
        check.same("behind the module it traps", x.run(9), 1);
        check.same("trapped", x.state(1), 3);
        check.same("pc stays", x.pc(1), e + 8);
        Fenced y = Check.withWords(Check.w(Check.JUMP, 7, 5, 3));
        y.load(2);
        y.run(1);
        check.same("JUMP to E", y.pc(2), 128);
        Fenced z = counters(0);
        z.run(30);
        check.same("behind the last word", z.pc(0), 94);
        z.run(9);
        check.same("it traps there", z.state(0), 3);
        check.same("and stays there", z.pc(0), 94);
        Fenced full = new Fenced();
        for (int n = 0; n < 31; n++) {
            full.word(Check.w(Check.COPY, 1, 1, 1));
        }
        full.load(2);
        check.same("31 words and a trap", full.run(500), 32);
        check.same("the last code word traps", full.pc(2), 159);
        check.same("31 steps were counted", full.register(2, 1), 31);
    }

    private static void accesses() {
        for (int k = 0; k < 3; k++) {
            for (int address : new int[] {0, 15, 16, -1, 47, Check.MOST_I, Check.LEAST_I}) {
                Fenced x = Check.loaded(k, Check.SET, 1, 0, 77, Check.SET, 2, 0, address, Check.STORE, 1, 2, 0, Check.LOAD, 3, 2, 16);
                x.run(10);
                int at = 16 * k + (address & 15);
                check.same("stored", x.peek(at), 77);
                check.same("loaded", x.register(k, 3), 77);
                check.same("r6", x.register(k, 6), at);
                int others = 0;
                for (int word = 0; word < 64; word++) {
                    others += word != at && x.peek(word) != 0 ? 1 : 0;
                }
                check.same("other words stay", others, 0);
            }
        }
        Fenced y = Check.withWords(Check.w(Check.STORE, 6, 6, 0), Check.w(Check.LOAD, 5, 6, 0));
        y.load(2);
        y.run(2);
        check.same("r6 can be stored", y.peek(32), 32);
        check.same("and loaded", y.register(2, 5), 32);
    }

    private static void statesAndPlaces() {
        Fenced x = Check.withWords(Check.w(Check.SET, 1, 0, 8), 0);
        check.same("empty", x.state(1), 0);
        x.load(1);
        check.same("running", x.state(1), 1);
        x.run(1);
        check.same("pc after a step", x.pc(1), 97);
        x.run(1);
        check.same("trapped", x.state(1), 3);
        check.same("pc of a trap", x.pc(1), 97);
        check.same("registers stay", x.register(1, 1), 8);
        Fenced y = Check.withWords(Check.w(Check.SET, 1, 0, 8), Check.w(Check.HOST, 0, 0, 0));
        y.load(2);
        y.run(2);
        check.same("over", y.state(2), 2);
        check.same("pc of an exit", y.pc(2), 129);
        check.same("r1 of an exit", y.register(2, 1), 8);
        y.clear();
        y.load(2);
        check.same("running after loading", y.state(2), 1);
    }

    private static void questionsOutOfRange() {
        Fenced x = counters(0, 1, 2);
        x.run(9);
        for (int k : new int[] {-1, 3, 255, Integer.MAX_VALUE, Integer.MIN_VALUE}) {
            check.same("state(" + k + ")", x.state(k), -1);
            check.same("pc(" + k + ")", x.pc(k), -1);
            check.same("register(" + k + ", 1)", x.register(k, 1), 0);
        }
        for (int r : new int[] {-1, 8, Integer.MAX_VALUE, Integer.MIN_VALUE}) {
            check.same("register(0, " + r + ")", x.register(0, r), 0);
        }
        for (int address : new int[] {-1, 256, Integer.MAX_VALUE, Integer.MIN_VALUE}) {
            check.same("peek(" + address + ")", x.peek(address), 0);
        }
        check.same("peek of code", x.peek(64 + 29), Check.w(Check.COPY, 1, 1, 1));
        check.same("peek of the last code word", x.peek(159), 0);
        check.same("peek behind", x.peek(160), 0);
    }
}
