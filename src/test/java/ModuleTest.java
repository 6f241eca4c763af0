/** Promises 6 to 9: word, module, verify, load. */
public final class ModuleTest {
    private static final Check check = new Check();

    public static void main(String[] args) {
        wordAndModule();
        verifyAgainstTheDocumentsRules();
        verifyOfBranches();
        verifyOfFencesAtTheEnd();
        verifyTellsTheFirst();
        verifyRefusesOtherSandboxes();
        loadPutsWordsAndZeroes();
        loadAgainBeginsAgain();
        loadEmptiesOwnDataAlone();
        loadRefuses();
        check.end();
    }

    private static void wordAndModule() {
        Fenced x = new Fenced();
        int[] words = {0, -1, Integer.MAX_VALUE, Integer.MIN_VALUE, 15};
        for (int n = 0; n < 31; n++) {
            check.yes("word " + n, x.word(words[n % 5] ^ n));
            check.same("module(-1)", x.module(-1), n + 1);
            check.same("module(p)", x.module(n), words[n % 5] ^ n);
            check.same("module behind", x.module(n + 1), 0);
        }
        check.no("word 31", x.word(7));
        check.same("module(-1) when full", x.module(-1), 31);
        check.same("module(30)", x.module(30), words[0] ^ 30);
        for (int p : new int[] {-2, 31, 32, Integer.MAX_VALUE, Integer.MIN_VALUE}) {
            check.same("module(" + p + ")", x.module(p), 0);
        }
        x.clear();
        check.same("module(0) after clear", x.module(0), 0);
        check.yes("word after clear", x.word(7));
        check.same("module(1) is gone", x.module(1), 0);
    }

    /** The rules once more, as the document has them: p = 0 of n = 2. */
    private static boolean isSafe(int op, int a, int b, int i, int next, int k) {
        int d = 16 * k;
        int e = 64 + 32 * k;
        if (op == 15) return false;
        if (op >= 10 && op <= 12 && !(1 + i >= 0 && 1 + i <= 1)) return false;
        if (op == 13 && a != 7) return false;
        if (op == 14 && !(i >= 0 && i <= 6)) return false;
        if ((op == 8 || op == 9) && !(b == 6 && i == 0)) return false;
        if (op >= 1 && op <= 8 && a == 6) {
            boolean or = op == 7 && b == 6 && i == d;
            boolean and = op == 6 && i == 15 && next == Check.w(7, 6, 6, d);
            if (!or && !and) return false;
        }
        if (op >= 1 && op <= 8 && a == 7) {
            boolean or = op == 7 && b == 7 && i == e;
            boolean and = op == 6 && i == 31 && next == Check.w(7, 7, 7, e);
            if (!or && !and) return false;
        }
        return true;
    }

    private static void verifyAgainstTheDocumentsRules() {
        int[] is = {-2, -1, 0, 1, 6, 7, 14, 15, 16, 30, 31, 32, 64, 96, 128, Check.MOST_I, Check.LEAST_I};
        int[] nexts = {0, Check.w(7, 6, 6, 0), Check.w(7, 6, 6, 16), Check.w(7, 6, 6, 32), Check.w(7, 7, 7, 64), Check.w(7, 7, 7, 96),
            Check.w(7, 7, 7, 128)};
        for (int next : nexts) {
            for (int i : is) {
                for (int rest = 0; rest < 1024; rest++) {
                    int op = rest & 15;
                    int a = rest / 16 % 8;
                    int b = rest / 128;
                    Fenced x = Check.withWords(Check.w(op, a, b, i), next);
                    for (int k = 0; k < 3; k++) {
                        boolean due = isSafe(op, a, b, i, next, k);
                        int got = x.verify(k);
                        check.same("verify(" + k + ") of " + op + " " + a + " " + b + " " + i + ", " + next, got == 0 ? 0 : 1, due ? 1 : 0);
                    }
                }
            }
        }
    }

    private static void verifyOfBranches() {
        for (int op = 10; op <= 12; op++) {
            for (int n = 1; n <= 31; n += 10) {
                for (int p = 0; p < n; p++) {
                    for (int to : new int[] {-1, 0, n - 1, n}) {
                        Fenced x = new Fenced();
                        for (int q = 0; q < n; q++) {
                            x.word(q == p ? Check.w(op, 6, 7, to - p - 1) : 0);
                        }
                        check.same("verify of a branch to " + to + " of " + n, x.verify(1), to >= 0 && to < n ? -1 : p);
                    }
                }
            }
        }
    }

    private static void verifyOfFencesAtTheEnd() {
        int and6 = Check.w(Check.AND, 6, 3, 15);
        int and7 = Check.w(Check.AND, 7, 3, 31);
        for (int k = 0; k < 3; k++) {
            int or6 = Check.w(Check.OR, 6, 6, 16 * k);
            int or7 = Check.w(Check.OR, 7, 7, 64 + 32 * k);
            check.same("AND r6 as the last word", Check.withWords(0, and6).verify(k), 1);
            check.same("AND r7 as the last word", Check.withWords(0, and7).verify(k), 1);
            check.same("AND r6, OR r6", Check.withWords(and6, or6).verify(k), -1);
            check.same("AND r7, OR r7", Check.withWords(and7, or7).verify(k), -1);
            check.same("AND r6, OR r7", Check.withWords(and6, or7).verify(k), 0);
            check.same("AND r7, OR r6", Check.withWords(and7, or6).verify(k), 0);
            check.same("AND r6, 0, OR r6", Check.withWords(and6, 0, or6).verify(k), 0);
            check.same("AND r6, AND r6, OR r6", Check.withWords(and6, and6, or6).verify(k), 0);
            check.same("OR alone", Check.withWords(or6, or7).verify(k), -1);
            check.same("AND r6 with 31", Check.withWords(Check.w(Check.AND, 6, 3, 31), or6).verify(k), 0);
            check.same("AND r7 with 15", Check.withWords(Check.w(Check.AND, 7, 3, 15), or7).verify(k), 0);
            check.same("OR of another register", Check.withWords(Check.w(Check.AND, 6, 3, 15), Check.w(Check.OR, 6, 5, 16 * k)).verify(k), 0);
        }
        Fenced full = new Fenced();
        for (int n = 0; n < 30; n++) {
            full.word(0);
        }
        full.word(and6);
        check.same("AND r6 as word 30", full.verify(0), 30);
        Fenced gone = Check.withWords(and6, Check.w(Check.OR, 6, 6, 0));
        gone.clear();
        gone.word(and6);
        check.same("an OR from before clear does not count", gone.verify(0), 0);
    }

    private static void verifyTellsTheFirst() {
        check.same("verify of two wrong words", Check.withWords(0, 0, 15, 15).verify(1), 2);
        check.same("verify of the last wrong word", Check.withWords(0, 0, 0, 15).verify(1), 3);
        check.same("verify of no words", new Fenced().verify(2), -1);
    }

    private static void verifyRefusesOtherSandboxes() {
        for (int k : new int[] {-1, 3, Integer.MAX_VALUE, Integer.MIN_VALUE}) {
            check.same("verify(" + k + ")", new Fenced().verify(k), -2);
            check.same("verify(" + k + ") of a wrong module", Check.withWords(15).verify(k), -2);
        }
    }

    private static void loadPutsWordsAndZeroes() {
        for (int k = 0; k < 3; k++) {
            Fenced x = Check.withWords(Check.w(Check.SET, 1, 0, 5), Check.w(Check.GO, 0, 0, -2));
            check.yes("load", x.load(k));
            int e = 64 + 32 * k;
            for (int address = 0; address < 256; address++) {
                check.same("peek after load", x.peek(address), address == e ? x.module(0) : address == e + 1 ? x.module(1) : 0);
            }
            check.same("state after load", x.state(k), 1);
            check.same("pc after load", x.pc(k), e);
            for (int r = 0; r < 8; r++) {
                check.same("register after load", x.register(k, r), r == 6 ? 16 * k : r == 7 ? e : 0);
            }
            check.same("state of another", x.state((k + 1) % 3), 0);
            check.same("r7 of another", x.register((k + 1) % 3, 7), 0);
            check.same("the module stays", x.module(-1), 2);
        }
    }

    private static void loadAgainBeginsAgain() {
        Fenced x = Check.loaded(1,
            Check.SET, 2, 0, 9, Check.STORE, 2, 0, 3, Check.SET, 1, 0, 16, Check.HOST, 0, 0, Check.ALLOC,
            Check.HOST, 0, 0, Check.OUT, Check.SET, 1, 0, 1, Check.HOST, 0, 0, Check.SEND, Check.HOST, 0, 0, Check.IN,
            Check.HOST, 0, 0, Check.EXIT);
        x.feed(1, 4);
        x.feed(1, 5);
        check.same("run to its end", x.run(500), 12);
        check.same("over", x.state(1), 2);
        check.same("stored", x.peek(19), 9);
        x.clear();
        Check.words(x, Check.w(Check.HOST, 0, 0, Check.IN), Check.w(Check.HOST, 0, 0, Check.RECEIVE),
            Check.w(Check.SET, 1, 0, 16), Check.w(Check.HOST, 0, 0, Check.ALLOC));
        check.yes("load again", x.load(1));
        check.same("running again", x.state(1), 1);
        check.same("pc again", x.pc(1), 96);
        check.same("data is 0 again", x.peek(19), 0);
        for (int p = 4; p < 32; p++) {
            check.same("code behind is 0 again", x.peek(96 + p), 0);
        }
        for (int r = 0; r < 8; r++) {
            check.same("registers again", x.register(1, r), r == 6 ? 16 : r == 7 ? 96 : 0);
        }
        check.same("no outputs again", x.output(1, -1), 0);
        check.same("output 0 again", x.output(1, 0), 0);
        check.same("no calls again", x.call(1, -1, 0), 0);
        check.same("call 0 again", x.call(1, 0, 1), 0);
        x.run(1);
        check.same("no inputs again", x.register(1, 1), -1);
        x.run(1);
        check.same("no mail again", x.register(1, 1), -1);
        x.run(2);
        check.same("BREAK is 0 again", x.register(1, 1), 0);
    }

    /** Fills all data words of all sandboxes, then loads one of them again. */
    private static void loadEmptiesOwnDataAlone() {
        for (int again = 0; again < 3; again++) {
            Fenced x = new Fenced();
            for (int k = 0; k < 3; k++) {
                x.clear();
                Check.words(x, Check.w(Check.COPY, 1, 1, 1), Check.w(Check.AND, 6, 1, 15), Check.w(Check.OR, 6, 6, 16 * k),
                    Check.w(Check.STORE, 1, 6, 0), Check.w(Check.GO, 0, 0, -5));
                x.load(k);
            }
            x.run(3 * 16 * 5 + 6);
            int[] before = new int[48];
            for (int address = 0; address < 48; address++) {
                before[address] = x.peek(address);
                check.no("each data word is filled", before[address] == 0);
            }
            x.clear();
            x.load(again);
            for (int address = 0; address < 48; address++) {
                check.same("peek(" + address + ") after load(" + again + ")", x.peek(address), address / 16 == again ? 0 : before[address]);
            }
            for (int address = 64; address < 160; address++) {
                boolean isCode = (address - 64) % 32 < 5 && (address - 64) / 32 != again;
                check.same("code at " + address, x.peek(address) == 0 ? 0 : 1, isCode ? 1 : 0);
            }
        }
    }

    private static void loadRefuses() {
        Fenced x = Check.withWords(0);
        for (int k : new int[] {-1, 3, Integer.MAX_VALUE, Integer.MIN_VALUE}) {
            check.no("load(" + k + ")", x.load(k));
        }
        x.load(1);
        x.word(15);
        String before = Check.picture(x);
        for (int k = 0; k < 3; k++) {
            check.no("load of a wrong module", x.load(k));
        }
        check.sameText("a refused load changes nothing", Check.picture(x), before);
        Fenced other = Check.withWords(Check.w(Check.OR, 6, 6, 16));
        check.no("load for another sandbox", other.load(0));
        check.no("load for another sandbox", other.load(2));
        check.yes("load for the right sandbox", other.load(1));
    }
}
