/** The edges of promises 6 to 9 and of MODULE, SAFE and LOADING: for each sentence of the document a test of its own. */
public final class EdgesOfModuleTest extends Check {
    private static final int[] EDGES_OF_I = {-1, 0, 1, 6, 7, 14, 15, 16, 17, 30, 31, 32, 33, 48, 63, 64, 65, 96, 128, MOST_I, LEAST_I};

    public static void main(String[] args) {
        new EdgesOfModuleTest().all();
    }

    private void all() {
        sentence("6: Adds the word w to the module: true", this::wordAdds);
        sentence("6: Refused (false) when it has 31", this::wordRefusesTheThirtySecond);
        sentence("7: Word p of the module", this::moduleTellsWords);
        sentence("7: 0 if it has none", this::moduleTellsZero);
        sentence("7: for p = -1 how many it has", this::moduleTellsHowMany);
        sentence("8: The place of the first word of the module that is not safe", this::verifyTellsTheFirst);
        sentence("8: -1 when it is safe", this::verifyTellsSafety);
        sentence("8: -2 when k is not 0 .. 2", this::verifyRefusesSandboxes);
        sentence("9: Loads the module into sandbox k: true", this::loadLoads);
        sentence("9: Refused (false) when k is not 0 .. 2", this::loadRefusesSandboxes);
        sentence("9: or the module is not safe for it", this::loadRefusesWhatIsNotSafe);
        sentence("MODULE: A MODULE has 0 .. 31 words", this::modulesOfNoneAndAllWords);
        sentence("SAFE: its op is not 15", this::opFifteen);
        sentence("SAFE: op 10, 11, 12: p + 1 + i is 0 .. n - 1", this::branchesAtTheEdges);
        sentence("SAFE: op 13: a is 7", this::jumps);
        sentence("SAFE: op 14: i is 0 .. 6", this::hostCalls);
        sentence("SAFE: op 8, 9: b is 6", this::accessesByOtherRegisters);
        sentence("SAFE: op 8, 9: i is 0", this::accessesBeside);
        sentence("SAFE: op 1 to 8 with a = 6: it is OR with b = 6 and i = D", () -> orAlone(6));
        sentence("SAFE: or it is AND with i = 15", () -> andBefore(6, 15));
        sentence("SAFE: and word p + 1 is there", () -> andAtTheEnd(6, 15));
        sentence("SAFE: and is OR with a = 6, b = 6, i = D", () -> orBehind(6, 15));
        sentence("SAFE: op 1 to 8 with a = 7: the same with 7 in the place of 6, i = E in the place of D", () -> orAlone(7));
        sentence("SAFE: and i = 31 in the place of 15", () -> andBefore(7, 31));
        sentence("SAFE, a = 7: and word p + 1 is there", () -> andAtTheEnd(7, 31));
        sentence("SAFE, a = 7: and is OR with a = 7, b = 7, i = E", () -> orBehind(7, 31));
        sentence("SAFE: op 1 to 8 (and so no other op) with a = 6 or 7", this::otherOps);
        sentence("SAFE: op 1 to 8 with a = 6 or 7 (and so no other a)", this::otherRegisters);
        sentence("SAFE for sandbox k when each of its words is", this::eachWord);
        sentence("LOADING: its words are put at E and behind", this::loadingPutsWords);
        sentence("LOADING: what is left of the 32 code words becomes 0", this::loadingClearsCode);
        sentence("LOADING: the data words become 0", this::loadingClearsData);
        sentence("LOADING: all registers become 0, but r6 becomes D and r7 E", this::loadingSetsRegisters);
        sentence("LOADING: PC becomes E", this::loadingSetsPc);
        sentence("LOADING: BREAK 0", this::loadingClearsBreak);
        sentence("LOADING: mailbox .. empty", this::loadingClearsMailbox);
        sentence("LOADING: inputs .. empty", this::loadingClearsInputs);
        sentence("LOADING: outputs .. empty", this::loadingClearsOutputs);
        sentence("LOADING: the list of calls .. empty", this::loadingClearsCalls);
        sentence("LOADING: it is running", this::loadingStarts);
        end();
    }

    private static int d(int k) {
        return 16 * k;
    }

    private static int e(int k) {
        return 64 + 32 * k;
    }

    private static int start(int register, int k) {
        return register == 6 ? d(k) : e(k);
    }

    private void wordAdds() {
        Fenced x = new Fenced();
        int[] any = {0, -1, 15, Integer.MAX_VALUE, Integer.MIN_VALUE, w(SET, 1, 0, 1)};
        for (int word : any) {
            yes("word(" + word + ")", x.word(word));
        }
        sameText("in their order", module(x), text(any));
        Fenced y = withLines(SET, 1, 0, 1);
        y.rewrite(0);
        yes("a word behind a rewritten module", y.word(9));
        sameText("it is the last", module(y), text(w(SET, 1, 0, 1), 0, 9));
    }

    private void wordRefusesTheThirtySecond() {
        Fenced x = new Fenced();
        for (int n = 0; n < 31; n++) {
            yes("word " + n, x.word(100 + n));
        }
        no("word 31", x.word(200));
        no("word 31 once more", x.word(0));
        same("how many", x.module(-1), 31);
        for (int n = 0; n < 31; n++) {
            same("word " + n + " stays", x.module(n), 100 + n);
        }
        Fenced y = new Fenced();
        for (int n = 0; n < 10; n++) {
            lines(y, JUMP, 0, 0, 0);
        }
        same("a rewritten module of 31 words", y.rewrite(0), 31);
        no("takes no other", y.word(1));
        x.clear();
        yes("after clear it takes one", x.word(1));
    }

    private void moduleTellsWords() {
        Fenced x = withWords(-1, Integer.MIN_VALUE, Integer.MAX_VALUE);
        same("module(0)", x.module(0), -1);
        same("module(1)", x.module(1), Integer.MIN_VALUE);
        same("module(2)", x.module(2), Integer.MAX_VALUE);
    }

    private void moduleTellsZero() {
        Fenced x = withWords(-1, -1, -1);
        for (int p : new int[] {-2, -3, 3, 4, 30, 31, 32, 1000, Integer.MAX_VALUE, Integer.MIN_VALUE}) {
            same("module(" + p + ") of three", x.module(p), 0);
        }
        Fenced full = new Fenced();
        for (int n = 0; n < 31; n++) {
            full.word(-1);
        }
        same("module(30) of 31", full.module(30), -1);
        same("module(31) of 31", full.module(31), 0);
        same("module(-2) of 31", full.module(-2), 0);
        full.clear();
        words(full, 7);
        for (int p = 1; p < 31; p++) {
            same("a word from before clear", full.module(p), 0);
        }
    }

    private void moduleTellsHowMany() {
        Fenced x = new Fenced();
        for (int n = 0; n < 31; n++) {
            same("module(-1)", x.module(-1), n);
            x.word(0);
        }
        same("module(-1) of 31 words", x.module(-1), 31);
    }

    private void verifyTellsTheFirst() {
        for (int p = 0; p < 31; p++) {
            Fenced x = new Fenced();
            for (int n = 0; n < 31; n++) {
                x.word(n == p || n == 30 ? 15 : 0);
            }
            for (int k = 0; k < 3; k++) {
                same("verify(" + k + ") with a wrong word at " + p, x.verify(k), p);
            }
        }
    }

    private void verifyTellsSafety() {
        Fenced x = new Fenced();
        for (int n = 0; n <= 31; n++) {
            for (int k = 0; k < 3; k++) {
                same("verify(" + k + ") of " + n + " words", x.verify(k), -1);
            }
            x.word(w(SET, 1, 0, n));
        }
    }

    private void verifyRefusesSandboxes() {
        for (int k : outside(2)) {
            same("verify(" + k + ") of an empty module", new Fenced().verify(k), -2);
            same("verify(" + k + ") of a safe module", withWords(0).verify(k), -2);
            same("verify(" + k + ") of another one", withWords(15).verify(k), -2);
        }
    }

    private void loadLoads() {
        for (int k = 0; k < 3; k++) {
            Fenced x = withWords(w(SET, 1, 0, 5));
            yes("load(" + k + ")", x.load(k));
            for (int other = 0; other < 3; other++) {
                same("state(" + other + ")", x.state(other), other == k ? 1 : 0);
            }
            yes("load(" + k + ") while it runs", x.load(k));
            x.run(500);
            yes("load(" + k + ") after its end", x.load(k));
            same("the module stays", x.module(-1), 1);
        }
    }

    private void loadRefusesSandboxes() {
        for (int k : outside(2)) {
            Fenced x = withWords(0);
            no("load(" + k + ")", x.load(k));
            no("load(" + k + ") of an empty module", new Fenced().load(k));
            same("run after it", x.run(5), 0);
        }
    }

    private void loadRefusesWhatIsNotSafe() {
        for (int k = 0; k < 3; k++) {
            Fenced x = withWords(0, 15);
            no("load(" + k + ")", x.load(k));
            same("state(" + k + ")", x.state(k), 0);
            Fenced own = withWords(w(OR, 6, 6, d(k)), w(OR, 7, 7, e(k)));
            for (int other = 0; other < 3; other++) {
                same("load(" + other + ") of a module for " + k, own.load(other) ? 1 : 0, other == k ? 1 : 0);
            }
        }
        Fenced running = withWords(w(SET, 1, 0, 5), w(GO, 0, 0, -2));
        running.load(1);
        running.run(1);
        running.word(w(JUMP, 0, 0, 0));
        no("load over a running one", running.load(1));
        same("it runs on", running.pc(1), 97);
        same("with its registers", running.register(1, 1), 5);
    }

    private void modulesOfNoneAndAllWords() {
        for (int k = 0; k < 3; k++) {
            Fenced none = new Fenced();
            yes("load of no words", none.load(k));
            same("it traps in its first step", none.run(500), 1);
            same("trapped", none.state(k), 3);
            same("at E", none.pc(k), e(k));
            Fenced all = new Fenced();
            for (int n = 0; n < 31; n++) {
                all.word(w(COPY, 1, 1, 1));
            }
            yes("load of 31 words", all.load(k));
            same("it traps behind them", all.run(500), 32);
            same("trapped", all.state(k), 3);
            same("at the last code address", all.pc(k), e(k) + 31);
            same("all were done", all.register(k, 1), 31);
        }
    }

    private void opFifteen() {
        for (int rest : new int[] {0, 1, 6 << 3 | 6, -1, 1 << 20, 0x7ffffff}) {
            for (int k = 0; k < 3; k++) {
                same("verify of " + (rest << 4 | 15), withWords(0, rest << 4 | 15).verify(k), 1);
            }
        }
        for (int op = 0; op < 15; op++) {
            int a = op == JUMP ? 7 : 0;
            int b = op == LOAD || op == STORE ? 6 : 0;
            same("verify of op " + op, withWords(w(op, a, b, 0), 0).verify(0), -1);
        }
    }

    private void branchesAtTheEdges() {
        for (int op = BEQ; op <= GO; op++) {
            for (int n : new int[] {1, 2, 3, 16, 30, 31}) {
                for (int p = 0; p < n; p++) {
                    for (int to : new int[] {-2, -1, 0, 1, n - 1, n, n + 1, 31, 32}) {
                        Fenced x = new Fenced();
                        for (int q = 0; q < n; q++) {
                            x.word(q == p ? w(op, 0, 0, to - p - 1) : 0);
                        }
                        same("op " + op + " at " + p + " of " + n + " to " + to, x.verify(0), to >= 0 && to < n ? -1 : p);
                    }
                }
            }
            same("far forward", withWords(w(op, 0, 0, MOST_I)).verify(0), 0);
            same("far back", withWords(w(op, 0, 0, LEAST_I)).verify(0), 0);
        }
        same("to the OR behind an AND", withWords(w(AND, 6, 0, 15), w(OR, 6, 6, 0), w(GO, 0, 0, -2)).verify(0), -1);
    }

    private void jumps() {
        for (int a = 0; a < 8; a++) {
            for (int k = 0; k < 3; k++) {
                same("JUMP r" + a, withWords(w(JUMP, a, 0, 0)).verify(k), a == 7 ? -1 : 0);
                same("JUMP r" + a + " with other fields", withWords(w(JUMP, a, 7, LEAST_I)).verify(k), a == 7 ? -1 : 0);
            }
        }
    }

    private void hostCalls() {
        for (int i = -3; i < 20; i++) {
            same("HOST " + i, withWords(w(HOST, 0, 0, i)).verify(1), i >= 0 && i <= 6 ? -1 : 0);
            same("HOST " + i + " with other fields", withWords(w(HOST, 6, 7, i)).verify(1), i >= 0 && i <= 6 ? -1 : 0);
        }
        same("HOST of the most", withWords(w(HOST, 0, 0, MOST_I)).verify(1), 0);
        same("HOST of the least", withWords(w(HOST, 0, 0, LEAST_I)).verify(1), 0);
    }

    private void accessesByOtherRegisters() {
        for (int op = LOAD; op <= STORE; op++) {
            for (int b = 0; b < 8; b++) {
                for (int k = 0; k < 3; k++) {
                    same("op " + op + " at r" + b, withWords(0, w(op, 0, b, 0)).verify(k), b == 6 ? -1 : 1);
                }
            }
        }
    }

    private void accessesBeside() {
        for (int op = LOAD; op <= STORE; op++) {
            for (int i : EDGES_OF_I) {
                same("op " + op + " at r6 + " + i, withWords(0, w(op, 0, 6, i)).verify(0), i == 0 ? -1 : 1);
            }
        }
    }

    /** Every op from 1 to 8 on the fenced register, with every rb and the edges of i, and nothing that fences it behind. */
    private void orAlone(int register) {
        for (int k = 0; k < 3; k++) {
            for (int op = SET; op <= LOAD; op++) {
                for (int b = 0; b < 8; b++) {
                    for (int i : EDGES_OF_I) {
                        boolean safe = op == OR && b == register && i == start(register, k);
                        same("op " + op + " of r" + register + ", r" + b + ", " + i + " for " + k,
                            withWords(w(op, register, b, i), 0).verify(k), safe ? -1 : 0);
                    }
                }
            }
        }
    }

    /** The OR stands behind each time: only an AND with the right mask may stand before it. */
    private void andBefore(int register, int mask) {
        for (int k = 0; k < 3; k++) {
            int or = w(OR, register, register, start(register, k));
            for (int op = SET; op <= LOAD; op++) {
                for (int b = 0; b < 8; b++) {
                    for (int i : EDGES_OF_I) {
                        int word = w(op, register, b, i);
                        boolean safe = op == AND && i == mask || word == or;
                        same("op " + op + " of r" + register + ", r" + b + ", " + i + " for " + k, withWords(word, or).verify(k), safe ? -1 : 0);
                    }
                }
            }
        }
    }

    private void andAtTheEnd(int register, int mask) {
        for (int k = 0; k < 3; k++) {
            int and = w(AND, register, 0, mask);
            int or = w(OR, register, register, start(register, k));
            same("AND alone", withWords(and).verify(k), 0);
            same("AND as the last word", withWords(0, 0, and).verify(k), 2);
            same("OR before it is of no use", withWords(or, and).verify(k), 1);
            Fenced full = new Fenced();
            for (int n = 0; n < 30; n++) {
                full.word(0);
            }
            full.word(and);
            same("AND as word 30", full.verify(k), 30);
            Fenced fits = new Fenced();
            for (int n = 0; n < 29; n++) {
                fits.word(0);
            }
            words(fits, and, or);
            same("AND as word 29, OR as word 30", fits.verify(k), -1);
            Fenced gone = withWords(and, or);
            gone.clear();
            gone.word(and);
            same("OR from before clear is not there", gone.verify(k), 0);
            gone.word(or);
            same("OR that comes behind it is", gone.verify(k), -1);
        }
    }

    private void orBehind(int register, int mask) {
        for (int k = 0; k < 3; k++) {
            int and = w(AND, register, 3, mask);
            int due = start(register, k);
            for (int op = 0; op < 15; op++) {
                for (int a = 0; a < 8; a++) {
                    for (int b = 0; b < 8; b++) {
                        boolean isOr = op == OR && a == register && b == register;
                        same("AND, then op " + op + " of r" + a + ", r" + b, withWords(and, w(op, a, b, due), 0).verify(k), isOr ? -1 : 0);
                    }
                }
            }
            for (int i : EDGES_OF_I) {
                same("AND, then OR with " + i + " for " + k, withWords(and, w(OR, register, register, i)).verify(k), i == due ? -1 : 0);
            }
            int or = w(OR, register, register, due);
            same("AND, a word between, OR", withWords(and, 0, or).verify(k), 0);
            same("AND, AND, OR", withWords(and, and, or).verify(k), 0);
            same("AND, OR, AND, OR", withWords(and, or, and, or).verify(k), -1);
        }
    }

    private void otherOps() {
        for (int a = 6; a < 8; a++) {
            for (int k = 0; k < 3; k++) {
                same("TRAP", withWords(w(TRAP, a, 0, 0)).verify(k), -1);
                same("STORE of r" + a, withWords(w(STORE, a, 6, 0)).verify(k), -1);
                same("BEQ of r" + a, withWords(w(BEQ, a, 0, -1)).verify(k), -1);
                same("BLT of r" + a, withWords(w(BLT, a, 0, -1)).verify(k), -1);
                same("GO", withWords(w(GO, a, 0, -1)).verify(k), -1);
                same("HOST", withWords(w(HOST, a, 0, 0)).verify(k), -1);
            }
        }
    }

    private void otherRegisters() {
        for (int op = SET; op <= OR; op++) {
            for (int a = 0; a < 6; a++) {
                for (int b = 0; b < 8; b++) {
                    for (int i : new int[] {0, 15, MOST_I, LEAST_I}) {
                        same("op " + op + " of r" + a + ", r" + b, withWords(w(op, a, b, i)).verify(2), -1);
                    }
                }
            }
        }
        for (int a = 0; a < 8; a++) {
            same("LOAD to r" + a, withWords(w(LOAD, a, 6, 0)).verify(2), a < 6 ? -1 : 0);
        }
    }

    private void eachWord() {
        for (int k = 0; k < 3; k++) {
            int[] safe = {w(SET, 1, 0, 5), w(AND, 6, 1, 15), w(OR, 6, 6, d(k)), w(STORE, 1, 6, 0), w(AND, 7, 1, 31), w(OR, 7, 7, e(k)), w(JUMP, 7, 0, 0)};
            same("all words safe", withWords(safe).verify(k), -1);
            for (int other = 0; other < 3; other++) {
                same("a module for " + k + ", verify(" + other + ")", withWords(safe).verify(other), other == k ? -1 : 1);
            }
            for (int p = 0; p < safe.length; p++) {
                int[] one = safe.clone();
                one[p] = 15;
                int due = p == 2 || p == 5 ? p - 1 : p;
                same("word " + p + " wrong", withWords(one).verify(k), due);
                no("load of it", withWords(one).load(k));
            }
        }
    }

    private void loadingPutsWords() {
        for (int k = 0; k < 3; k++) {
            Fenced x = new Fenced();
            for (int n = 0; n < 31; n++) {
                x.word(w(SET, 1, 0, 100 + n));
            }
            x.load(k);
            for (int address = 0; address < 256; address++) {
                int p = address - e(k);
                same("peek(" + address + ")", x.peek(address), p >= 0 && p < 31 ? w(SET, 1, 0, 100 + p) : 0);
            }
        }
    }

    private void loadingClearsCode() {
        for (int k = 0; k < 3; k++) {
            Fenced x = new Fenced();
            for (int n = 0; n < 31; n++) {
                x.word(w(SET, 1, 0, 100 + n));
            }
            for (int each = 0; each < 3; each++) {
                x.load(each);
            }
            x.clear();
            words(x, w(SET, 2, 0, 7));
            x.load(k);
            for (int p = 0; p < 32; p++) {
                same("code word " + p, x.peek(e(k) + p), p == 0 ? w(SET, 2, 0, 7) : 0);
                for (int other = 0; other < 3; other++) {
                    if (other != k) {
                        same("code word " + p + " of another", x.peek(e(other) + p), p < 31 ? w(SET, 1, 0, 100 + p) : 0);
                    }
                }
            }
        }
    }

    /** Has the first and the last data word of all three filled, and their mailboxes, inputs, outputs and calls. */
    private static Fenced used() {
        Fenced x = new Fenced();
        for (int k = 0; k < 3; k++) {
            x.clear();
            x.mark(0);
            lines(x, SET, 1, 0, 3, STORE, 1, 0, 0, STORE, 1, 0, 15, HOST, 0, 0, ALLOC, SET, 1, 0, k, SET, 2, 0, 70 + k,
                HOST, 0, 0, SEND, HOST, 0, 0, SEND, HOST, 0, 0, IN, HOST, 0, 0, OUT, SET, 3, 0, 3, SET, 4, 0, 4, LABEL, 0, 0, 0);
            x.mark(1);
            lines(x, GO, 0, 0, 1);
            install(x, k);
            for (int n = 0; n < 12; n++) {
                x.feed(k, 80 + n);
            }
            x.run(100);
        }
        x.clear();
        return x;
    }

    private void loadingClearsData() {
        for (int k = 0; k < 3; k++) {
            Fenced x = used();
            for (int address : new int[] {0, 15, 16, 31, 32, 47}) {
                same("peek(" + address + ") before", x.peek(address), 3);
            }
            x.load(k);
            for (int address = 0; address < 48; address++) {
                boolean stays = address / 16 != k && (address % 16 == 0 || address % 16 == 15);
                same("peek(" + address + ") after load(" + k + ")", x.peek(address), stays ? 3 : 0);
            }
        }
    }

    private void loadingSetsRegisters() {
        for (int k = 0; k < 3; k++) {
            Fenced x = used();
            x.load(k);
            for (int r = 0; r < 8; r++) {
                same("register " + r, x.register(k, r), r == 6 ? d(k) : r == 7 ? e(k) : 0);
            }
            int other = (k + 1) % 3;
            same("r2 of another stays", x.register(other, 2), 70 + other);
        }
    }

    private void loadingSetsPc() {
        for (int k = 0; k < 3; k++) {
            Fenced x = used();
            no("pc before", x.pc(k) == e(k));
            x.load(k);
            same("pc(" + k + ")", x.pc(k), e(k));
            no("pc of another stays", x.pc((k + 1) % 3) == e((k + 1) % 3));
        }
    }

    private static void addAndLoad(Fenced x, int k, int... words) {
        x.clear();
        words(x, words);
        if (!x.load(k)) {
            throw new IllegalStateException("words of a test were not loaded");
        }
    }

    /** Lets k alone run, for as many steps as are due. */
    private static void runAlone(Fenced x, int k, int steps) {
        x.clear();
        for (int other = 0; other < 3; other++) {
            if (other != k && x.state(other) == 1) {
                x.load(other);
            }
        }
        x.run(steps + 2);
    }

    private void loadingClearsBreak() {
        for (int k = 0; k < 3; k++) {
            Fenced x = used();
            addAndLoad(x, k, w(SET, 1, 0, 16), w(HOST, 0, 0, ALLOC), w(GO, 0, 0, -1));
            runAlone(x, k, 2);
            same("ALLOC of all words after load", x.register(k, 1), 0);
            same("it was called", x.call(k, 0, 0), ALLOC);
        }
    }

    private void loadingClearsMailbox() {
        for (int k = 0; k < 3; k++) {
            Fenced x = used();
            addAndLoad(x, k, w(HOST, 0, 0, RECEIVE), w(GO, 0, 0, -1));
            runAlone(x, k, 1);
            same("RECEIVE after load", x.register(k, 1), -1);
            same("it was called", x.call(k, 0, 0), RECEIVE);
        }
    }

    private void loadingClearsInputs() {
        for (int k = 0; k < 3; k++) {
            Fenced x = used();
            no("a thirteenth input before", x.feed(k, 1));
            addAndLoad(x, k, w(HOST, 0, 0, IN), w(GO, 0, 0, -1));
            runAlone(x, k, 1);
            same("IN after load", x.register(k, 1), -1);
            same("it was called", x.call(k, 0, 0), IN);
            for (int n = 0; n < 12; n++) {
                yes("input " + n + " after load", x.feed(k, n));
            }
            no("a thirteenth input after load", x.feed(k, 12));
            no("a thirteenth of another that was not loaded", used().feed(k, 1));
        }
    }

    private void loadingClearsOutputs() {
        for (int k = 0; k < 3; k++) {
            Fenced x = used();
            same("how many before", x.output(k, -1), 1);
            same("the latest before", x.output(k, 0), 80);
            x.load(k);
            for (int j = -1; j < 8; j++) {
                same("output " + j + " after load", x.output(k, j), 0);
            }
            same("of another one", x.output((k + 1) % 3, -1), 1);
            loadingClearsManyOutputs(k);
        }
    }

    /** After as many outputs as can be told or more, and then with some of the next module's own. */
    private void loadingClearsManyOutputs(int k) {
        for (int many : new int[] {7, 8, 9, 16, 30}) {
            Fenced x = withWords(w(COPY, 3, 3, 1), w(COPY, 1, 3, 0), w(HOST, 0, 0, OUT), w(GO, 0, 0, -4));
            x.load(k);
            x.run(4 * many);
            same("how many before", x.output(k, -1), many);
            x.load(k);
            for (int n = 0; n <= 8; n++) {
                for (int j = 0; j < 8; j++) {
                    same("output " + j + " of " + n + " after load", x.output(k, j), j < n ? n - j : 0);
                }
                x.run(4);
            }
        }
    }

    private void loadingClearsCalls() {
        for (int k = 0; k < 3; k++) {
            Fenced x = used();
            same("how many before", x.call(k, -1, 0), 5);
            x.load(k);
            for (int j = -1; j < 16; j++) {
                for (int what = 0; what < 3; what++) {
                    same("call " + j + " after load", x.call(k, j, what), 0);
                }
            }
            same("of another one", x.call((k + 1) % 3, -1, 0), 5);
        }
    }

    private void loadingStarts() {
        for (int k = 0; k < 3; k++) {
            Fenced x = withWords(w(HOST, 0, 0, EXIT));
            x.load(k);
            same("from empty", x.state(k), 1);
            x.run(1);
            same("over", x.state(k), 2);
            x.load(k);
            same("from over", x.state(k), 1);
            x.clear();
            x.load(k);
            same("from running", x.state(k), 1);
            x.run(1);
            same("trapped", x.state(k), 3);
            x.load(k);
            same("from trapped", x.state(k), 1);
        }
    }
}
