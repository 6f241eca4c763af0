/** The edges of promises 10 to 15 and of MEMORY, WORDS and RUNNING: for each sentence of the document a test of its own. */
public final class EdgesOfMachineTest extends Check {
    private static final int MOST = Integer.MAX_VALUE;
    private static final int LEAST = Integer.MIN_VALUE;

    public static void main(String[] args) {
        EdgesOfMachineTest test = new EdgesOfMachineTest();
        test.promises();
        test.memory();
        test.words();
        test.running();
        test.sentence("An object is used for at most 512 calls after it has been made", test::allOfItsCalls);
        test.end();
    }

    private void promises() {
        sentence("10: Adds v to the inputs of sandbox k: true", this::feedAdds);
        sentence("10: Refused (false) when k is not 0 .. 2", this::feedRefusesSandboxes);
        sentence("10: is empty", this::feedRefusesEmptyOnes);
        sentence("10: or has got 12 since it was loaded", this::feedRefusesTheThirteenth);
        sentence("11: n steps, n from 0 to 500", this::runMakesSteps);
        sentence("11: or fewer, if no sandbox is running any more: how many were made", this::runMakesFewer);
        sentence("11: -1, and none is made, for another n", this::runRefuses);
        sentence("12: The state of sandbox k", this::stateTells);
        sentence("12: -1 when k is not 0 .. 2", this::stateRefuses);
        sentence("13: PC of sandbox k, 0 while it is empty", this::pcTells);
        sentence("13: -1 when k is not 0 .. 2", this::pcRefuses);
        sentence("14: Register r of sandbox k", this::registerTells);
        sentence("14: 0 when there is none", this::registerTellsZero);
        sentence("14: or the sandbox is empty", this::registerOfEmptyOnes);
        sentence("15: The word at an address", this::peekTells);
        sentence("15: 0 when there is none", this::peekTellsZero);
    }

    private void memory() {
        sentence("MEMORY: 256 words, at the addresses 0 .. 255, at first 0", this::memoryIsZeroAtFirst);
        sentence("MEMORY: the DATA addresses 16 * k .. 16 * k + 15", this::dataAddresses);
        sentence("MEMORY: the CODE addresses 64 + 32 * k .. 95 + 32 * k", this::codeAddresses);
    }

    private void words() {
        sentence("WORDS: op = w & 15, a = w >> 4 & 7, b = w >> 7 & 7", this::fieldsOfAWord);
        sentence("WORDS: i = w >> 10 (signed, -2^21 .. 2^21 - 1)", this::edgesOfI);
        sentence("WORDS: All sums wrap: COPY", this::copyWraps);
        sentence("WORDS: All sums wrap: ADD", this::addWraps);
        sentence("WORDS: All sums wrap: SUB", this::subWraps);
        sentence("WORDS: All sums wrap: rb + i of a LOAD or STORE", this::addressWraps);
        sentence("WORDS: PC is one more after it, if nothing else is said", this::pcIsOneMore);
        sentence("WORDS: TRAP: the sandbox is trapped, PC stays HERE", this::trap);
        sentence("WORDS: XOR, AND, OR", this::bits);
        sentence("WORDS: LOAD ra = the word at rb + i", this::load);
        sentence("WORDS: STORE the word at rb + i becomes ra", this::store);
        sentence("WORDS: BEQ: if ra = rb, PC becomes HERE + 1 + i", this::beq);
        sentence("WORDS: BLT: likewise if ra < rb", this::blt);
        sentence("WORDS: GO: PC becomes HERE + 1 + i", this::go);
        sentence("WORDS: JUMP: PC becomes ra", this::jump);
    }

    private void running() {
        sentence("RUNNING: It is always one sandbox's TURN, at first that of 0", this::firstTurn);
        sentence("RUNNING: When a step is to be made and no sandbox is running, the run ends, and it stays whose turn it is", this::turnStays);
        sentence("RUNNING: as long as the sandbox whose turn it is is not running, it becomes the next one's turn", this::turnPassesOver);
        sentence("RUNNING: (0 after 2)", this::zeroAfterTwo);
        sentence("RUNNING: When a sandbox has made 3 steps in a turn, it is the next one's turn", this::threeSteps);
        sentence("RUNNING: or is not running any more after a step, it is the next one's turn", this::endsItsTurn);
        sentence("RUNNING: A turn goes on in the next run where it was left", this::turnGoesOn);
        sentence("RUNNING: when the sandbox whose turn it is is loaded, it has made no steps in its turn yet", this::loadedInItsTurn);
        sentence("RUNNING: (the sandbox whose turn it is, and no other)", this::loadedInAnothersTurn);
        sentence("RUNNING: No instruction of a safe module gets at other words than the sandbox's own data", this::accessesStayInside);
        sentence("RUNNING: or comes from other words than its own code", this::jumpsStayInside);
    }

    private static int e(int k) {
        return 64 + 32 * k;
    }

    private static Fenced loadedWords(int k, int... words) {
        Fenced x = withWords(words);
        if (!x.load(k)) {
            throw new IllegalStateException("words of a test were not loaded");
        }
        return x;
    }

    /** Puts left into r1 and right into r2 by way of the inputs, then does the word. */
    private static Fenced done(int left, int right, int word) {
        Fenced x = loadedWords(1, w(HOST, 0, 0, IN), w(COPY, 2, 1, 0), w(HOST, 0, 0, IN), word, 0, 0, 0);
        x.feed(1, right);
        x.feed(1, left);
        if (x.run(4) != 4) {
            throw new IllegalStateException("words of a test were not done");
        }
        return x;
    }

    private void feedAdds() {
        Fenced x = new Fenced();
        int[] words = new int[12];
        java.util.Arrays.fill(words, w(HOST, 0, 0, IN));
        int[] inputs = {0, -1, MOST, LEAST, 5, 5, 1, 2, 3, 4, 6, 7};
        for (int k = 0; k < 3; k++) {
            x = loadedWords(k, words);
            for (int v : inputs) {
                yes("feed(" + k + ", " + v + ")", x.feed(k, v));
            }
            for (int v : inputs) {
                x.run(1);
                same("the next input", x.register(k, 1), v);
            }
        }
    }

    private void feedRefusesSandboxes() {
        Fenced x = loadedWords(0, 0);
        x.load(1);
        x.load(2);
        for (int k : outside(2)) {
            no("feed(" + k + ", 5)", x.feed(k, 5));
        }
        for (int k = 0; k < 3; k++) {
            yes("feed(" + k + ", 5)", x.feed(k, 5));
        }
    }

    private void feedRefusesEmptyOnes() {
        for (int k = 0; k < 3; k++) {
            Fenced x = new Fenced();
            no("feed of an empty one", x.feed(k, 5));
            words(x, w(HOST, 0, 0, IN));
            x.load(k);
            same("it stays without inputs", x.run(1), 1);
            same("IN", x.register(k, 1), -1);
            yes("feed of a running one", x.feed(k, 5));
            x.run(1);
            same("it is trapped", x.state(k), 3);
            yes("feed of a trapped one", x.feed(k, 5));
            x.clear();
            words(x, w(HOST, 0, 0, EXIT));
            x.load(k);
            x.run(1);
            same("it is over", x.state(k), 2);
            yes("feed of one that is over", x.feed(k, 5));
        }
    }

    private void feedRefusesTheThirteenth() {
        for (int k = 0; k < 3; k++) {
            Fenced x = loadedWords(k, w(HOST, 0, 0, IN), w(GO, 0, 0, -2));
            for (int n = 0; n < 12; n++) {
                yes("feed " + n, x.feed(k, 100 + n));
            }
            no("feed 12", x.feed(k, 112));
            x.run(1);
            same("one is taken", x.register(k, 1), 100);
            no("feed 12, though one is taken", x.feed(k, 112));
            for (int n = 1; n < 12; n++) {
                x.run(2);
                same("the next", x.register(k, 1), 100 + n);
            }
            no("feed 12, though all are taken", x.feed(k, 112));
            x.run(2);
            same("what was refused is not there", x.register(k, 1), -1);
            x.load(k);
            yes("feed after load", x.feed(k, 7));
        }
    }

    private static Fenced counters(int... sandboxes) {
        Fenced x = withWords(w(COPY, 1, 1, 1), w(COPY, 2, 2, 1), w(GO, 0, 0, -3));
        for (int k : sandboxes) {
            x.load(k);
        }
        return x;
    }

    private void runMakesSteps() {
        Fenced x = counters(1);
        same("run(0)", x.run(0), 0);
        same("no step was made", x.pc(1), 96);
        same("run(1)", x.run(1), 1);
        same("one was made", x.pc(1), 97);
        same("run(500)", x.run(500), 500);
        same("501 steps in all", x.register(1, 1) + x.register(1, 2), 334);
        same("run(499)", x.run(499), 499);
        same("1000 steps in all", x.register(1, 1) + x.register(1, 2), 667);
    }

    private void runMakesFewer() {
        same("none loaded", new Fenced().run(500), 0);
        for (int k = 0; k < 3; k++) {
            Fenced x = loadedWords(k, w(SET, 1, 0, 1), w(SET, 1, 0, 2), w(HOST, 0, 0, EXIT));
            same("to its end", x.run(500), 3);
            same("once more", x.run(500), 0);
            x.load(k);
            same("just to its end", x.run(3), 3);
            same("once more", x.run(1), 0);
            x.load(k);
            same("one short of its end", x.run(2), 2);
            same("it runs", x.state(k), 1);
            same("the last one", x.run(2), 1);
        }
        Fenced all = loadedWords(0, w(SET, 1, 0, 1), 0);
        all.load(1);
        all.load(2);
        same("all to their ends", all.run(500), 6);
    }

    private void runRefuses() {
        for (int n : new int[] {-1, -2, 501, 502, 1000, MOST, LEAST}) {
            Fenced x = counters(0, 1, 2);
            x.run(4);
            String before = picture(x);
            same("run(" + n + ")", x.run(n), -1);
            sameText("none is made", picture(x), before);
            x.run(2);
            same("the turn was not touched", x.pc(1), 96);
            same("nor the next one's", x.pc(2), 128);
        }
        for (int n : outside(500)) {
            same("run(" + n + ") with none loaded", new Fenced().run(n), -1);
        }
    }

    private void stateTells() {
        for (int k = 0; k < 3; k++) {
            Fenced x = new Fenced();
            same("empty", x.state(k), 0);
            x.load(k);
            same("running", x.state(k), 1);
            x.run(1);
            same("trapped", x.state(k), 3);
            words(x, w(HOST, 0, 0, EXIT));
            x.load(k);
            same("running again", x.state(k), 1);
            x.run(1);
            same("over", x.state(k), 2);
            same("the next one", x.state((k + 1) % 3), 0);
        }
    }

    private void stateRefuses() {
        Fenced x = counters(0, 1, 2);
        for (int k : outside(2)) {
            same("state(" + k + ")", x.state(k), -1);
            same("state(" + k + ") of a new object", new Fenced().state(k), -1);
        }
    }

    private void pcTells() {
        for (int k = 0; k < 3; k++) {
            Fenced x = counters();
            same("empty", x.pc(k), 0);
            x.run(5);
            same("still empty", x.pc(k), 0);
            x.load(k);
            same("loaded", x.pc(k), e(k));
            x.run(2);
            same("after two steps", x.pc(k), e(k) + 2);
            same("another one", x.pc((k + 1) % 3), 0);
        }
    }

    private void pcRefuses() {
        Fenced x = counters(0, 1, 2);
        for (int k : outside(2)) {
            same("pc(" + k + ")", x.pc(k), -1);
            same("pc(" + k + ") of a new object", new Fenced().pc(k), -1);
        }
    }

    private void registerTells() {
        for (int k = 0; k < 3; k++) {
            Fenced x = loadedWords(k, w(SET, 0, 0, 10), w(SET, 1, 0, 11), w(SET, 2, 0, 12), w(SET, 3, 0, 13), w(SET, 4, 0, 14), w(SET, 5, 0, 15));
            x.run(6);
            for (int r = 0; r < 8; r++) {
                same("register " + r, x.register(k, r), r == 6 ? 16 * k : r == 7 ? e(k) : 10 + r);
            }
        }
    }

    private void registerTellsZero() {
        Fenced x = counters(0, 1, 2);
        x.run(9);
        for (int r : outside(7)) {
            for (int k = 0; k < 3; k++) {
                same("register(" + k + ", " + r + ")", x.register(k, r), 0);
            }
        }
        for (int k : outside(2)) {
            for (int r = 0; r < 8; r++) {
                same("register(" + k + ", " + r + ")", x.register(k, r), 0);
            }
            same("register(" + k + ", 8)", x.register(k, 8), 0);
        }
    }

    private void registerOfEmptyOnes() {
        for (int k = 0; k < 3; k++) {
            Fenced x = counters((k + 1) % 3, (k + 2) % 3);
            x.run(20);
            for (int r = -1; r < 9; r++) {
                same("register(" + k + ", " + r + ")", x.register(k, r), 0);
            }
        }
    }

    private void peekTells() {
        Fenced x = loaded(2, SET, 1, 0, 77, STORE, 1, 0, 15, STORE, 1, 0, 0);
        x.run(500);
        same("the first data word", x.peek(32), 77);
        same("the last data word", x.peek(47), 77);
        same("the first code word", x.peek(128), w(SET, 1, 0, 77));
        same("the last word of the module", x.peek(137), 0);
        same("the word before it", x.peek(136), w(STORE, 1, 6, 0));
    }

    private void peekTellsZero() {
        Fenced x = counters(0, 1, 2);
        x.run(100);
        for (int address : outside(255)) {
            same("peek(" + address + ")", x.peek(address), 0);
        }
        for (int address : new int[] {256 + 64, 64 - 256, 64 | 1 << 30, 96 - 65536}) {
            same("peek(" + address + ")", x.peek(address), 0);
        }
    }

    private void memoryIsZeroAtFirst() {
        Fenced x = new Fenced();
        for (int address = 0; address < 256; address++) {
            same("peek(" + address + ")", x.peek(address), 0);
        }
        for (int k = 0; k < 3; k++) {
            x.load(k);
        }
        x.run(500);
        for (int address = 0; address < 256; address++) {
            same("peek(" + address + ") after empty modules", x.peek(address), 0);
        }
    }

    private void dataAddresses() {
        for (int k = 0; k < 3; k++) {
            for (int at : new int[] {0, 1, 14, 15}) {
                Fenced x = loaded(k, SET, 1, 0, 77, STORE, 1, 0, at, LOAD, 2, 0, at);
                x.run(500);
                same("the word is read again", x.register(k, 2), 77);
                for (int address = 0; address < 64; address++) {
                    same("peek(" + address + ")", x.peek(address), address == 16 * k + at ? 77 : 0);
                }
            }
        }
    }

    private void codeAddresses() {
        Fenced x = new Fenced();
        for (int k = 0; k < 3; k++) {
            x.clear();
            for (int n = 0; n < 31; n++) {
                x.word(w(SET, k, 0, n));
            }
            x.load(k);
        }
        for (int k = 0; k < 3; k++) {
            for (int n = 0; n < 32; n++) {
                same("code word " + n + " of " + k, x.peek(e(k) + n), n < 31 ? w(SET, k, 0, n) : 0);
            }
        }
        for (int address = 160; address < 256; address++) {
            same("behind all code", x.peek(address), 0);
        }
        for (int address = 48; address < 64; address++) {
            same("between data and code", x.peek(address), 0);
        }
    }

    private void fieldsOfAWord() {
        int other = w(0, 0, 0, -1) | 7 << 7 | 7 << 4;
        Fenced trap = loadedWords(0, other);
        trap.run(1);
        same("op 0 with all other bits", trap.state(0), 3);
        same("SET with b 7", done(1, 2, w(SET, 3, 7, 9)).register(1, 3), 9);
        for (int i : new int[] {1, -1, MOST_I, LEAST_I}) {
            same("ADD with i " + i, done(1, 2, w(ADD, 1, 2, i)).register(1, 1), 3);
            same("SUB with i " + i, done(1, 2, w(SUB, 1, 2, i)).register(1, 1), -1);
            same("XOR with i " + i, done(1, 2, w(XOR, 1, 2, i)).register(1, 1), 3);
        }
        same("GO with a and b 7", done(1, 2, w(GO, 7, 7, 1)).pc(1), 101);
        same("HOST with a and b 7", done(1, 2, w(HOST, 7, 7, OUT)).output(1, 0), 1);
        Fenced jump = loadedWords(2, 0 | w(JUMP, 7, 7, -1));
        jump.run(1);
        same("JUMP with b 7 and i -1", jump.pc(2), 128);
        for (int a = 0; a < 6; a++) {
            for (int b = 0; b < 8; b++) {
                Fenced x = loadedWords(0, w(SET, 0, 0, 10), w(SET, 1, 0, 11), w(SET, 2, 0, 12), w(SET, 3, 0, 13), w(SET, 4, 0, 14), w(SET, 5, 0, 15), w(COPY, a, b, 100));
                x.run(7);
                for (int r = 0; r < 6; r++) {
                    int from = b == 6 ? 0 : b == 7 ? 64 : 10 + b;
                    same("r" + r + " after COPY r" + a + " = r" + b + " + 100", x.register(0, r), r == a ? from + 100 : 10 + r);
                }
            }
        }
    }

    private void edgesOfI() {
        for (int i : new int[] {2097151, -2097152, 0, 1, -1}) {
            same("SET " + i, done(0, 0, w(SET, 3, 0, i)).register(1, 3), i);
            same("COPY + " + i, done(0, 5, w(COPY, 3, 2, i)).register(1, 3), 5 + i);
            same("AND " + i, done(0, -1, w(AND, 3, 2, i)).register(1, 3), i);
            same("OR " + i, done(0, 0, w(OR, 3, 2, i)).register(1, 3), i);
        }
        same("the least int as a word", loadedWords(0, LEAST | SET).run(1), 1);
        Fenced least = loadedWords(0, LEAST | SET);
        least.run(1);
        same("SET of the word's first bit alone", least.register(0, 0), -2097152);
    }

    private void copyWraps() {
        same("the most + 1", done(0, MOST, w(COPY, 3, 2, 1)).register(1, 3), LEAST);
        same("the least - 1", done(0, LEAST, w(COPY, 3, 2, -1)).register(1, 3), MOST);
        same("the most + the most i", done(0, MOST, w(COPY, 3, 2, MOST_I)).register(1, 3), LEAST + MOST_I - 1);
        same("the least + the least i", done(0, LEAST, w(COPY, 3, 2, LEAST_I)).register(1, 3), MOST + LEAST_I + 1);
        same("the most + 0", done(0, MOST, w(COPY, 3, 2, 0)).register(1, 3), MOST);
    }

    private void addWraps() {
        same("the most + 1", done(MOST, 1, w(ADD, 1, 2, 0)).register(1, 1), LEAST);
        same("the most + the most", done(MOST, MOST, w(ADD, 1, 2, 0)).register(1, 1), -2);
        same("the least + the least", done(LEAST, LEAST, w(ADD, 1, 2, 0)).register(1, 1), 0);
        same("the least + -1", done(LEAST, -1, w(ADD, 1, 2, 0)).register(1, 1), MOST);
        same("the most to itself", done(MOST, 0, w(ADD, 1, 1, 0)).register(1, 1), -2);
    }

    private void subWraps() {
        same("the least - 1", done(LEAST, 1, w(SUB, 1, 2, 0)).register(1, 1), MOST);
        same("the most - -1", done(MOST, -1, w(SUB, 1, 2, 0)).register(1, 1), LEAST);
        same("0 - the least", done(0, LEAST, w(SUB, 1, 2, 0)).register(1, 1), LEAST);
        same("the least - itself", done(LEAST, 0, w(SUB, 1, 1, 0)).register(1, 1), 0);
    }

    /** The address is fenced: of a wrapped sum the last four bits are left. */
    private void addressWraps() {
        int[][] cases = {{MOST, 1, 0}, {LEAST, -1, 15}, {MOST, MOST_I, 14}, {LEAST, LEAST_I, 0}, {MOST, 0, 15}, {-1, 1, 0}, {0, -1, 15}};
        for (int k = 0; k < 3; k++) {
            for (int[] f : cases) {
                Fenced x = loaded(k, HOST, 0, 0, IN, SET, 2, 0, 66, STORE, 2, 1, f[1], LOAD, 3, 1, f[1]);
                x.feed(k, f[0]);
                x.run(500);
                same("STORE at " + f[0] + " + " + f[1], x.peek(16 * k + f[2]), 66);
                same("LOAD at " + f[0] + " + " + f[1], x.register(k, 3), 66);
                same("r5 has the wrapped sum", x.register(k, 5), f[0] + f[1]);
            }
        }
    }

    private void pcIsOneMore() {
        for (int op = SET; op <= STORE; op++) {
            same("after op " + op, done(1, 2, w(op, 3, op == LOAD || op == STORE ? 6 : 2, 0)).pc(1), 100);
        }
        for (int number = 1; number <= 6; number++) {
            same("after HOST " + number, done(1, 2, w(HOST, 0, 0, number)).pc(1), 100);
        }
        same("after BEQ that goes nowhere", done(1, 2, w(BEQ, 1, 2, 2)).pc(1), 100);
        same("after BLT that goes nowhere", done(2, 1, w(BLT, 1, 2, 2)).pc(1), 100);
    }

    private void trap() {
        for (int k = 0; k < 3; k++) {
            Fenced x = loadedWords(k, w(SET, 1, 0, 5), 0, w(SET, 1, 0, 6));
            same("it takes a step", x.run(500), 2);
            same("state", x.state(k), 3);
            same("pc", x.pc(k), e(k) + 1);
            same("r1", x.register(k, 1), 5);
            same("no call is noted", x.call(k, -1, 0), 0);
            same("no step more", x.run(500), 0);
            same("pc", x.pc(k), e(k) + 1);
        }
    }

    private void bits() {
        same("XOR of the edges", done(MOST, LEAST, w(XOR, 1, 2, 0)).register(1, 1), -1);
        same("XOR with itself", done(LEAST, 0, w(XOR, 1, 1, 0)).register(1, 1), 0);
        same("AND of the most with the least i", done(0, MOST, w(AND, 3, 2, LEAST_I)).register(1, 3), 0x7fe00000);
        same("AND of the least with the most i", done(0, LEAST, w(AND, 3, 2, MOST_I)).register(1, 3), 0);
        same("AND of -1 with -1", done(0, -1, w(AND, 3, 2, -1)).register(1, 3), -1);
        same("AND with 0", done(0, -1, w(AND, 3, 2, 0)).register(1, 3), 0);
        same("OR of the least with -1", done(0, LEAST, w(OR, 3, 2, -1)).register(1, 3), -1);
        same("OR of the least with the most i", done(0, LEAST, w(OR, 3, 2, MOST_I)).register(1, 3), LEAST + MOST_I);
        same("OR of 0 with the least i", done(0, 0, w(OR, 3, 2, LEAST_I)).register(1, 3), LEAST_I);
        same("ra does not count in AND", done(6, 5, w(AND, 1, 2, 7)).register(1, 1), 5);
        same("ra does not count in OR", done(8, 5, w(OR, 1, 2, 2)).register(1, 1), 7);
    }

    private void load() {
        for (int v : new int[] {MOST, LEAST, -1, 0}) {
            Fenced x = loadedWords(1, w(HOST, 0, 0, IN), w(STORE, 1, 6, 0), w(SET, 2, 0, 9), w(LOAD, 2, 6, 0));
            x.feed(1, v);
            x.run(4);
            same("LOAD of " + v, x.register(1, 2), v);
            same("the word stays", x.peek(16), v);
            same("r6 stays", x.register(1, 6), 16);
        }
    }

    private void store() {
        for (int v : new int[] {MOST, LEAST, -1, 0}) {
            Fenced x = loadedWords(1, w(SET, 2, 0, 9), w(STORE, 2, 6, 0), w(HOST, 0, 0, IN), w(STORE, 1, 6, 0));
            x.feed(1, v);
            x.run(4);
            same("STORE of " + v, x.peek(16), v);
            same("ra stays", x.register(1, 1), v);
            same("r6 stays", x.register(1, 6), 16);
        }
    }

    private void branch(int op, int left, int right, boolean goes) {
        same("op " + op + " of " + left + ", " + right, done(left, right, w(op, 1, 2, 2)).pc(1), goes ? 102 : 100);
        same("op " + op + " of " + left + ", " + right + " back", done(left, right, w(op, 1, 2, -4)).pc(1), goes ? 96 : 100);
        same("r1 stays", done(left, right, w(op, 1, 2, 2)).register(1, 1), left);
    }

    private void beq() {
        branch(BEQ, 0, 0, true);
        branch(BEQ, MOST, MOST, true);
        branch(BEQ, LEAST, LEAST, true);
        branch(BEQ, MOST, LEAST, false);
        branch(BEQ, 0, LEAST, false);
        branch(BEQ, 1, -1, false);
        branch(BEQ, 5, 6, false);
        branch(BEQ, 6, 5, false);
    }

    private void blt() {
        branch(BLT, LEAST, MOST, true);
        branch(BLT, MOST, LEAST, false);
        branch(BLT, LEAST, 0, true);
        branch(BLT, LEAST, 1, true);
        branch(BLT, 0, LEAST, false);
        branch(BLT, -1, MOST, true);
        branch(BLT, MOST, -1, false);
        branch(BLT, 5, 5, false);
        branch(BLT, LEAST, LEAST, false);
        branch(BLT, 5, 6, true);
        branch(BLT, 6, 5, false);
    }

    private void go() {
        branch(GO, 5, 6, true);
        branch(GO, 6, 5, true);
        Fenced x = loadedWords(2, w(GO, 0, 0, -1));
        same("GO to itself", x.run(500), 500);
        same("pc", x.pc(2), 128);
        Fenced last = new Fenced();
        last.word(w(GO, 0, 0, 29));
        for (int n = 1; n < 30; n++) {
            last.word(0);
        }
        last.word(w(GO, 0, 0, -31));
        last.load(0);
        last.run(1);
        same("GO to the last of 31", last.pc(0), 94);
        last.run(1);
        same("GO to the first of 31", last.pc(0), 64);
    }

    private void jump() {
        for (int k = 0; k < 3; k++) {
            for (int to : new int[] {0, 1, 30, 31, 32, 63, -1, MOST_I, LEAST_I}) {
                Fenced x = loadedWords(k, w(SET, 1, 0, to), w(AND, 7, 1, 31), w(OR, 7, 7, e(k)), w(JUMP, 7, 0, 0));
                x.run(4);
                same("JUMP to " + to, x.pc(k), e(k) + (to & 31));
                same("r7", x.register(k, 7), e(k) + (to & 31));
            }
            Fenced first = loadedWords(k, w(JUMP, 7, 0, 0));
            same("JUMP to E", first.run(500), 500);
            same("pc", first.pc(k), e(k));
        }
    }

    /** 30 words that count in r1, so that up to 30 steps of each sandbox can be told. */
    private static Fenced stepping(int... sandboxes) {
        Fenced x = new Fenced();
        for (int n = 0; n < 30; n++) {
            x.word(w(COPY, 1, 1, 1));
        }
        for (int k : sandboxes) {
            x.load(k);
        }
        return x;
    }

    private void steps(String when, Fenced x, int... due) {
        sameText(when, text(x.register(0, 1), x.register(1, 1), x.register(2, 1)), text(due));
    }

    private void firstTurn() {
        Fenced x = stepping(2, 1, 0);
        x.run(1);
        steps("0 is first, in whatever order they were loaded", x, 1, 0, 0);
        Fenced y = stepping(2, 1);
        y.run(1);
        steps("without 0, 1 is", y, 0, 1, 0);
        Fenced z = stepping(2);
        z.run(1);
        steps("without these, 2 is", z, 0, 0, 1);
    }

    private void turnStays() {
        Fenced x = new Fenced();
        same("run with none loaded", x.run(7), 0);
        for (int n = 0; n < 30; n++) {
            x.word(w(COPY, 1, 1, 1));
        }
        for (int k = 0; k < 3; k++) {
            x.load(k);
        }
        x.run(1);
        steps("it stayed 0's turn", x, 1, 0, 0);
        for (int last = 0; last < 3; last++) {
            Fenced y = loadedWords(last, w(HOST, 0, 0, EXIT));
            same("to its end", y.run(9), 1);
            same("none runs", y.run(9), 0);
            same("none runs", y.run(1), 0);
            y.clear();
            for (int n = 0; n < 30; n++) {
                y.word(w(COPY, 1, 1, 1));
            }
            for (int k = 0; k < 3; k++) {
                y.load(k);
            }
            y.run(1);
            int next = (last + 1) % 3;
            steps("it stayed the turn of the one after " + last, y, next == 0 ? 1 : 0, next == 1 ? 1 : 0, next == 2 ? 1 : 0);
        }
    }

    private void turnPassesOver() {
        Fenced x = stepping(0, 2);
        x.run(5);
        steps("1 is empty", x, 3, 0, 2);
        Fenced y = loadedWords(1, w(HOST, 0, 0, EXIT));
        y.run(1);
        y.clear();
        for (int n = 0; n < 30; n++) {
            y.word(w(COPY, 1, 1, 1));
        }
        y.load(2);
        y.load(0);
        y.run(5);
        steps("1 is over, and it was 2's turn", y, 2, 0, 3);
        y.run(4);
        steps("1 is over still", y, 3, 0, 6);
        Fenced z = new Fenced();
        z.load(0);
        z.load(1);
        z.run(2);
        for (int n = 0; n < 30; n++) {
            z.word(w(COPY, 1, 1, 1));
        }
        z.load(2);
        z.run(7);
        steps("0 and 1 are trapped", z, 0, 0, 7);
    }

    private void zeroAfterTwo() {
        Fenced x = stepping(0, 1, 2);
        x.run(9);
        steps("each had its turn", x, 3, 3, 3);
        x.run(1);
        steps("0 after 2", x, 4, 3, 3);
        Fenced y = stepping(1, 2);
        y.run(7);
        steps("1 after 2, with 0 empty", y, 0, 4, 3);
    }

    private void threeSteps() {
        Fenced x = stepping(0, 1, 2);
        x.run(3);
        steps("three of 0", x, 3, 0, 0);
        x.run(1);
        steps("then 1", x, 3, 1, 0);
        x.run(3);
        steps("then 2", x, 3, 3, 1);
        Fenced alone = stepping(1);
        alone.run(3);
        alone.load(0);
        alone.load(2);
        alone.run(1);
        steps("after three steps it is the next one's turn at once", alone, 0, 3, 1);
        Fenced two = stepping(1);
        two.run(2);
        two.load(0);
        two.load(2);
        two.run(2);
        steps("after two steps not yet", two, 0, 3, 1);
        Fenced four = stepping(1);
        four.run(4);
        four.load(0);
        four.load(2);
        four.run(3);
        steps("a turn that comes back begins with no steps", four, 0, 6, 1);
    }

    private void endsItsTurn() {
        for (int ending : new int[] {0, w(HOST, 0, 0, EXIT)}) {
            for (int before = 0; before < 3; before++) {
                Fenced x = new Fenced();
                for (int n = 0; n < before; n++) {
                    x.word(w(COPY, 1, 1, 1));
                }
                x.word(ending);
                x.load(0);
                x.clear();
                for (int n = 0; n < 30; n++) {
                    x.word(w(COPY, 1, 1, 1));
                }
                x.load(1);
                x.load(2);
                x.run(before + 1);
                steps("it has ended", x, before, 0, 0);
                x.load(0);
                x.run(3);
                steps("then it is 1's turn, for three steps", x, 0, 3, 0);
                x.run(1);
                steps("then 2's", x, 0, 3, 1);
            }
        }
    }

    private void turnGoesOn() {
        Fenced x = stepping(0, 1, 2);
        int[] due = new int[3];
        for (int n = 0; n < 40; n++) {
            same("run(1)", x.run(1), 1);
            due[n / 3 % 3]++;
            steps("one step a run", x, due);
        }
        Fenced y = stepping(0, 1, 2);
        y.run(1);
        y.run(0);
        y.run(501);
        y.run(-1);
        y.run(1);
        y.run(0);
        y.run(2);
        steps("runs of 1, 1 and 2", y, 3, 1, 0);
        y.run(4);
        steps("and of 4", y, 3, 3, 2);
    }

    private void loadedInItsTurn() {
        for (int before = 1; before < 3; before++) {
            Fenced x = stepping(0, 1);
            x.run(before);
            x.load(0);
            x.run(3);
            steps("three steps after load", x, 3, 0, 0);
            x.run(1);
            steps("then the next one's", x, 3, 1, 0);
        }
        Fenced y = stepping(0, 1);
        y.run(5);
        y.load(1);
        y.run(3);
        steps("1 in its turn", y, 3, 3, 0);
    }

    private void loadedInAnothersTurn() {
        for (int other = 1; other < 3; other++) {
            Fenced x = stepping(0, 1, 2);
            x.run(2);
            x.load(other);
            x.run(2);
            steps("0 has one step left", x, 3, 1, 0);
        }
        Fenced refused = stepping(0, 1);
        refused.run(2);
        refused.word(15);
        no("load of a module that is not safe", refused.load(0));
        refused.run(2);
        steps("a refused load does not count", refused, 3, 1, 0);
    }

    /** 512 calls, most of them the longest runs: what is counted goes far beyond what is kept. */
    private void allOfItsCalls() {
        Fenced x = loadedWords(2, w(SET, 1, 0, 0), w(SET, 2, 0, 16), w(HOST, 0, 0, PRINT), w(GO, 0, 0, -4));
        int runs = 502;
        for (int n = 0; n < runs; n++) {
            same("run(500)", x.run(500), 500);
        }
        same("outputs", x.output(2, -1), 2000 * runs);
        same("calls", x.call(2, -1, 0), 125 * runs);
        same("the latest output", x.output(2, 0), 0);
        same("the last call that is kept", x.call(2, 15, 2), 16);
        same("the 512th call", x.state(2), 1);
    }

    private void accessesStayInside() {
        for (int k = 0; k < 3; k++) {
            for (int address : new int[] {-1, 16, 32, 47, 48, 64, 95, 159, 255, 256, MOST_I, LEAST_I}) {
                Fenced x = loaded(k, SET, 1, 0, 77, SET, 2, 0, address, STORE, 1, 2, 0);
                int[] before = new int[256];
                for (int n = 0; n < 256; n++) {
                    before[n] = x.peek(n);
                }
                x.run(500);
                for (int n = 0; n < 256; n++) {
                    same("peek(" + n + ") after STORE at " + address, x.peek(n), n == 16 * k + (address & 15) ? 77 : before[n]);
                }
            }
        }
    }

    private void jumpsStayInside() {
        for (int k = 0; k < 3; k++) {
            for (int to : new int[] {0, 64, 95, 96, 127, 128, 159, 255, -1, MOST_I, LEAST_I}) {
                Fenced x = loaded(k, SET, 1, 0, to, JUMP, 1, 0, 0);
                x.run(4);
                same("pc after JUMP to " + to, x.pc(k), e(k) + (to & 31));
            }
        }
    }
}
