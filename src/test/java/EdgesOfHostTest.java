/** The edges of promises 16 and 17 and of HOST CALLS: for each sentence of the document a test of its own. */
public final class EdgesOfHostTest extends Check {
    private static final int MOST = Integer.MAX_VALUE;
    private static final int LEAST = Integer.MIN_VALUE;

    public static void main(String[] args) {
        EdgesOfHostTest test = new EdgesOfHostTest();
        test.promises();
        test.hostCalls();
        test.end();
    }

    private void promises() {
        sentence("16: The word put out j-th counted from the latest (0) by sandbox k", this::outputTells);
        sentence("16: 0 when there were not so many", this::outputOfFewer);
        sentence("16: or j is not 0 .. 7", this::outputOutsideTheRange);
        sentence("16: For j = -1 how many", this::outputTellsHowMany);
        sentence("16: 0 when k is not 0 .. 2", this::outputRefusesSandboxes);
        sentence("17: Of the call j (0 the first since it was loaded) of sandbox k", this::callTells);
        sentence("17: what = 0 its number, 1 its first argument, 2 its second one (0 when it has none)", this::callTellsArguments);
        sentence("17: 0 when there were not so many", this::callOfFewer);
        sentence("17: j is not 0 .. 15", this::callOutsideTheRange);
        sentence("17: what is none of these", this::callWithOtherWhat);
        sentence("17: or k is not 0 .. 2", this::callRefusesSandboxes);
        sentence("17: For j = -1, with any what, how many calls", this::callTellsHowMany);
    }

    private void hostCalls() {
        sentence("HOST: The call is noted in the list of k's calls with its ARGUMENTS (those that are named here)", this::callsAreNoted);
        sentence("HOST: and r1 becomes the ANSWER", this::answersComeInR1);
        sentence("HOST: EXIT: the sandbox is over, PC stays HERE, and r1 stays as it is", this::exit);
        sentence("HOST: OUT r1: r1 is put out; 0", this::out);
        sentence("HOST: IN: the first of the inputs that was not taken yet, which is taken", this::in);
        sentence("HOST: IN: -1 if there is none", this::inOfNone);
        sentence("HOST: ALLOC r1: if r1 is 1 .. 16 - BREAK", this::allocAtTheEdges);
        sentence("HOST: ALLOC: BREAK, which then grows by r1", this::allocGrows);
        sentence("HOST: ALLOC: else -1", this::allocRefused);
        sentence("HOST: PRINT r1, r2: if r1 and r2 are not negative", this::printOfNegatives);
        sentence("HOST: PRINT: and their exact sum is at most 16", this::printOfSums);
        sentence("HOST: PRINT: the words at D + r1 .. D + r1 + r2 - 1 are put out in order; r2", this::printPutsOut);
        sentence("HOST: PRINT: else -1", this::printRefused);
        sentence("HOST: SEND r1, r2: if sandbox r1 (0 .. 2)", this::sendOutsideTheRange);
        sentence("HOST: SEND: is not empty", this::sendToEmptyOnes);
        sentence("HOST: SEND: and its mailbox has less than 4 words", this::sendToAFullMailbox);
        sentence("HOST: SEND: r2 is put into it; 0", this::sendPutsIn);
        sentence("HOST: RECEIVE: the oldest word of k's mailbox, which leaves it", this::receive);
        sentence("HOST: RECEIVE: -1 if there is none", this::receiveOfNone);
        sentence("MEMORY: a MAILBOX of at most 4 words", this::fourWordsInAMailbox);
    }

    /** r1 and r2 come by way of the inputs, so that they may be any ints; then the call is made, as call 2. */
    private static Fenced asked(int k, int number, int r1, int r2) {
        Fenced x = withWords(w(HOST, 0, 0, IN), w(COPY, 2, 1, 0), w(HOST, 0, 0, IN), w(HOST, 0, 0, number));
        x.load(k);
        x.feed(k, r2);
        x.feed(k, r1);
        if (x.run(4) != 4) {
            throw new IllegalStateException("a call of a test was not made");
        }
        return x;
    }

    /** Puts out 1, 2, 3, .. without end, a word in four steps. */
    private static Fenced counting(int k) {
        Fenced x = withWords(w(COPY, 3, 3, 1), w(COPY, 1, 3, 0), w(HOST, 0, 0, OUT), w(GO, 0, 0, -4));
        x.load(k);
        return x;
    }

    private void outputTells() {
        for (int k = 0; k < 3; k++) {
            Fenced x = counting(k);
            for (int n = 1; n <= 20; n++) {
                x.run(4);
                for (int j = 0; j < 8 && j < n; j++) {
                    same("output(" + k + ", " + j + ") of " + n, x.output(k, j), n - j);
                }
            }
        }
        for (int v : new int[] {MOST, LEAST, -1}) {
            same("OUT of " + v, asked(1, OUT, v, 0).output(1, 0), v);
        }
    }

    private void outputOfFewer() {
        Fenced x = counting(1);
        for (int n = 0; n <= 8; n++) {
            for (int j = n; j < 8; j++) {
                same("output " + j + " of " + n, x.output(1, j), 0);
            }
            x.run(4);
        }
        same("none of an empty one", x.output(0, 0), 0);
    }

    private void outputOutsideTheRange() {
        Fenced x = counting(1);
        x.run(100);
        same("output 7", x.output(1, 7), 18);
        for (int j : new int[] {8, 9, 15, 16, 24, 25, -2, -3, -8, 1000, MOST, LEAST}) {
            same("output " + j, x.output(1, j), 0);
        }
    }

    private void outputTellsHowMany() {
        Fenced x = counting(2);
        same("none yet", x.output(2, -1), 0);
        for (int n = 1; n <= 40; n++) {
            x.run(4);
            same("how many", x.output(2, -1), n);
        }
        same("of an empty one", x.output(0, -1), 0);
        Fenced much = withWords(w(SET, 1, 0, 0), w(SET, 2, 0, 16), w(HOST, 0, 0, PRINT), w(GO, 0, 0, -4));
        much.load(0);
        much.run(500);
        same("sixteen at a time", much.output(0, -1), 2000);
        same("the latest", much.output(0, 0), 0);
    }

    private void outputRefusesSandboxes() {
        Fenced x = counting(0);
        x.load(1);
        x.load(2);
        x.run(100);
        for (int k : outside(2)) {
            for (int j = -1; j < 8; j++) {
                same("output(" + k + ", " + j + ")", x.output(k, j), 0);
            }
        }
    }

    private void callTells() {
        for (int k = 0; k < 3; k++) {
            Fenced x = counting(k);
            x.run(4 * 16);
            for (int j = 0; j < 16; j++) {
                same("call " + j, x.call(k, j, 1), j + 1);
            }
            x.run(100);
            for (int j = 0; j < 16; j++) {
                same("call " + j + " stays", x.call(k, j, 1), j + 1);
                same("its number", x.call(k, j, 0), OUT);
            }
            x.load(k);
            x.run(4);
            same("the first since it was loaded", x.call(k, 0, 1), 1);
            same("how many since it was loaded", x.call(k, -1, 0), 1);
        }
    }

    private void noted(String what, Fenced x, int k, int j, int number, int first, int second) {
        sameText(what, text(x.call(k, j, 0), x.call(k, j, 1), x.call(k, j, 2)), text(number, first, second));
    }

    private void callTellsArguments() {
        int[] arguments = {0, 1, 0, 1, 2, 2, 0};
        for (int number = 0; number <= 6; number++) {
            Fenced x = asked(2, number, 55, 66);
            noted("call of " + number, x, 2, 2, number, arguments[number] > 0 ? 55 : 0, arguments[number] > 1 ? 66 : 0);
        }
    }

    private void callOfFewer() {
        Fenced x = counting(1);
        for (int n = 0; n <= 16; n++) {
            for (int j = n; j < 16; j++) {
                noted("call " + j + " of " + n, x, 1, j, 0, 0, 0);
            }
            x.run(4);
        }
        noted("of an empty one", x, 0, 0, 0, 0, 0);
    }

    private void callOutsideTheRange() {
        Fenced x = counting(1);
        x.run(200);
        noted("call 15", x, 1, 15, OUT, 16, 0);
        for (int j : new int[] {16, 17, 31, 32, 49, 50, -2, -3, -16, 1000, MOST, LEAST}) {
            noted("call " + j, x, 1, j, 0, 0, 0);
        }
    }

    private void callWithOtherWhat() {
        Fenced x = asked(1, PRINT, 3, 4);
        for (int j = 0; j < 3; j++) {
            for (int what : outside(2)) {
                same("call(1, " + j + ", " + what + ")", x.call(1, j, what), 0);
            }
        }
    }

    private void callRefusesSandboxes() {
        Fenced x = counting(0);
        x.load(1);
        x.load(2);
        x.run(100);
        for (int k : outside(2)) {
            for (int j = -1; j < 16; j++) {
                for (int what = 0; what < 3; what++) {
                    same("call(" + k + ", " + j + ", " + what + ")", x.call(k, j, what), 0);
                }
            }
        }
    }

    private void callTellsHowMany() {
        Fenced x = counting(2);
        for (int n = 0; n <= 40; n++) {
            for (int what : new int[] {0, 1, 2, 3, -1, 1000, MOST, LEAST}) {
                same("call(2, -1, " + what + ")", x.call(2, -1, what), n);
            }
            x.run(4);
        }
        same("of an empty one", x.call(0, -1, 0), 0);
    }

    private void callsAreNoted() {
        int[] any = {0, -1, MOST, LEAST, 17};
        for (int r1 : any) {
            for (int r2 : any) {
                noted("OUT", asked(0, OUT, r1, r2), 0, 2, OUT, r1, 0);
                noted("ALLOC", asked(0, ALLOC, r1, r2), 0, 2, ALLOC, r1, 0);
                noted("PRINT", asked(0, PRINT, r1, r2), 0, 2, PRINT, r1, r2);
                noted("SEND", asked(0, SEND, r1, r2), 0, 2, SEND, r1, r2);
                noted("EXIT", asked(0, EXIT, r1, r2), 0, 2, EXIT, 0, 0);
                noted("IN", asked(0, IN, r1, r2), 0, 2, IN, 0, 0);
                noted("RECEIVE", asked(0, RECEIVE, r1, r2), 0, 2, RECEIVE, 0, 0);
            }
        }
        for (int number = 0; number <= 6; number++) {
            Fenced x = asked(1, number, 3, 4);
            same("how many", x.call(1, -1, 0), 3);
            same("of the others", x.call(0, -1, 0) + x.call(2, -1, 0), 0);
        }
    }

    private void answersComeInR1() {
        int[] due = {3, 0, -1, 0, 4, -1, -1};
        for (int number = 0; number <= 6; number++) {
            Fenced x = asked(0, number, 3, 4);
            same("r1 after call " + number, x.register(0, 1), due[number]);
            same("r2 after call " + number, x.register(0, 2), 4);
            for (int r = 0; r < 8; r++) {
                if (r != 1 && r != 2) {
                    same("r" + r + " after call " + number, x.register(0, r), r == 7 ? 64 : 0);
                }
            }
        }
    }

    private void exit() {
        for (int k = 0; k < 3; k++) {
            for (int r1 : new int[] {0, -1, MOST, 41}) {
                Fenced x = asked(k, EXIT, r1, 5);
                same("over", x.state(k), 2);
                same("pc", x.pc(k), 64 + 32 * k + 3);
                same("r1", x.register(k, 1), r1);
                same("no step more", x.run(5), 0);
                same("noted once", x.call(k, -1, 0), 3);
            }
        }
    }

    private void out() {
        for (int v : new int[] {0, 1, -1, MOST, LEAST}) {
            Fenced x = asked(1, OUT, v, 5);
            same("put out", x.output(1, 0), v);
            same("how many", x.output(1, -1), 1);
            same("answer", x.register(1, 1), 0);
            same("another one's", x.output(0, -1) + x.output(2, -1), 0);
        }
    }

    private void in() {
        Fenced x = withWords(w(HOST, 0, 0, IN), w(GO, 0, 0, -2));
        x.load(0);
        x.load(1);
        x.feed(1, 21);
        x.feed(0, 11);
        x.feed(1, 22);
        x.run(6);
        same("of 0", x.register(0, 1), -1);
        same("of 1", x.register(1, 1), 22);
        x.feed(0, 12);
        x.feed(0, 13);
        x.run(3);
        same("of 0, later", x.register(0, 1), 12);
        x.run(6);
        same("of 0, later still", x.register(0, 1), -1);
    }

    private void inOfNone() {
        Fenced x = withWords(w(HOST, 0, 0, IN), w(SET, 1, 0, 5), w(GO, 0, 0, -3));
        x.load(2);
        x.run(1);
        same("none was fed", x.register(2, 1), -1);
        x.feed(2, 7);
        x.run(3);
        same("one was fed", x.register(2, 1), 7);
        x.run(3);
        same("all were taken", x.register(2, 1), -1);
        x.run(3);
        same("once more", x.register(2, 1), -1);
        x.feed(2, 8);
        x.run(3);
        same("one more was fed", x.register(2, 1), 8);
        same("all calls were noted", x.call(2, -1, 0), 5);
    }

    /** BREAK is brought to the first size (0 leaves it out), then the second is asked for. */
    private static Fenced allocated(int first, int second) {
        Fenced x = withWords(w(SET, 1, 0, first), w(HOST, 0, 0, ALLOC), w(HOST, 0, 0, IN), w(HOST, 0, 0, ALLOC));
        x.load(1);
        x.feed(1, second);
        x.run(4);
        return x;
    }

    private void allocAtTheEdges() {
        for (int at = 0; at <= 16; at++) {
            for (int size = 1; size <= 17; size++) {
                same("ALLOC " + size + " with BREAK " + at, allocated(at, size).register(1, 1), size <= 16 - at ? at : -1);
            }
        }
    }

    private void allocGrows() {
        int[] sizes = {1, 5, 20, 4, 7, 6, 0, 1};
        int[] due = {0, 1, -1, 6, -1, 10, -1, -1};
        Fenced x = new Fenced();
        for (int size : sizes) {
            words(x, w(SET, 1, 0, size), w(HOST, 0, 0, ALLOC));
        }
        x.load(0);
        x.load(2);
        for (int n = 0; n < 100; n++) {
            x.run(1);
            int calls = x.call(2, -1, 0);
            if (calls > 0 && x.pc(2) % 2 == 0 && x.state(2) == 1) {
                same("answer of ALLOC " + sizes[calls - 1], x.register(2, 1), due[calls - 1]);
            }
        }
        same("all were asked", x.call(2, -1, 0), 8);
        same("the other has a BREAK of its own", x.call(0, -1, 0), 8);
    }

    private void allocRefused() {
        for (int at : new int[] {0, 1, 15, 16}) {
            for (int size : new int[] {0, -1, -16, -17, LEAST, MOST, 17 - at, 17}) {
                Fenced x = allocated(at, size);
                same("ALLOC " + size + " with BREAK " + at, x.register(1, 1), -1);
                same("it is noted", x.call(1, 2, 1), size);
            }
        }
        Fenced y = withWords(w(SET, 1, 0, 17), w(HOST, 0, 0, ALLOC), w(SET, 1, 0, -1), w(HOST, 0, 0, ALLOC), w(SET, 1, 0, 16), w(HOST, 0, 0, ALLOC));
        y.load(0);
        y.run(6);
        same("BREAK does not grow when it is refused", y.register(0, 1), 0);
    }

    private void printOfNegatives() {
        int[][] cases = {{-1, 0}, {0, -1}, {-1, 1}, {1, -1}, {-1, 17}, {17, -1}, {-1, -1}, {LEAST, 0}, {0, LEAST}, {LEAST, LEAST}, {LEAST, MOST}, {MOST, LEAST},
            {-16, 16}, {16, -16}, {-1, 16}};
        for (int[] f : cases) {
            Fenced x = asked(1, PRINT, f[0], f[1]);
            same("PRINT " + f[0] + ", " + f[1], x.register(1, 1), -1);
            same("nothing is put out", x.output(1, -1), 0);
        }
    }

    private void printOfSums() {
        for (int r1 = 0; r1 <= 17; r1++) {
            for (int r2 = 0; r2 <= 17; r2++) {
                Fenced x = asked(2, PRINT, r1, r2);
                boolean fits = r1 + r2 <= 16;
                same("PRINT " + r1 + ", " + r2, x.register(2, 1), fits ? r2 : -1);
                same("how many are put out", x.output(2, -1), fits ? r2 : 0);
            }
        }
        int[][] wrapping = {{MOST, MOST}, {MOST, 1}, {1, MOST}, {MOST, 2}, {2, MOST}, {1 << 30, 1 << 30}, {MOST, 0}, {0, MOST}, {MOST, 16}, {16, MOST}};
        for (int[] f : wrapping) {
            Fenced x = asked(2, PRINT, f[0], f[1]);
            same("PRINT " + f[0] + ", " + f[1], x.register(2, 1), -1);
            same("nothing is put out", x.output(2, -1), 0);
        }
    }

    /** Word p of the data becomes 100 + p for each p, then PRINT. */
    private static Fenced printed(int k, int start, int length) {
        Fenced x = withWords(
            w(COPY, 1, 3, 100), w(AND, 6, 3, 15), w(OR, 6, 6, 16 * k), w(STORE, 1, 6, 0), w(COPY, 3, 3, 1), w(SET, 4, 0, 16), w(BLT, 3, 4, -7),
            w(SET, 1, 0, start), w(SET, 2, 0, length), w(HOST, 0, 0, PRINT), w(HOST, 0, 0, EXIT));
        x.load(k);
        x.run(500);
        return x;
    }

    private void printPutsOut() {
        for (int k = 0; k < 3; k++) {
            for (int start = 0; start <= 16; start++) {
                for (int length = 0; length <= 16 - start; length++) {
                    Fenced x = printed(k, start, length);
                    same("answer of PRINT " + start + ", " + length, x.register(k, 1), length);
                    same("how many", x.output(k, -1), length);
                    for (int j = 0; j < 8; j++) {
                        same("output " + j + " of PRINT " + start + ", " + length, x.output(k, j), j < length ? 100 + start + length - 1 - j : 0);
                    }
                }
            }
        }
    }

    private void printRefused() {
        for (int[] f : new int[][] {{0, 17}, {17, 0}, {16, 1}, {1, 16}, {-1, 2}, {2, -1}}) {
            Fenced x = printed(0, f[0], f[1]);
            same("answer of PRINT " + f[0] + ", " + f[1], x.register(0, 1), -1);
            same("nothing is put out", x.output(0, -1), 0);
            noted("it is noted", x, 0, 0, PRINT, f[0], f[1]);
            same("r2 stays", x.register(0, 2), f[1]);
        }
    }

    private void sendOutsideTheRange() {
        for (int to : outside(2)) {
            Fenced x = new Fenced();
            for (int k = 0; k < 3; k++) {
                x.clear();
                words(x, w(HOST, 0, 0, IN), w(SET, 2, 0, 9), w(HOST, 0, 0, SEND), w(COPY, 3, 1, 0), w(HOST, 0, 0, RECEIVE), w(GO, 0, 0, -1));
                x.load(k);
            }
            x.feed(1, to);
            x.run(30);
            same("SEND to " + to, x.register(1, 3), -1);
            noted("it is noted", x, 1, 1, SEND, to, 9);
        }
    }

    private void sendToEmptyOnes() {
        for (int from = 0; from < 3; from++) {
            for (int to = 0; to < 3; to++) {
                Fenced x = asked(from, SEND, to, 9);
                same("SEND from " + from + " to " + to, x.register(from, 1), from == to ? 0 : -1);
            }
        }
        Fenced late = asked(0, SEND, 1, 9);
        late.clear();
        words(late, w(HOST, 0, 0, RECEIVE));
        late.load(1);
        late.run(2);
        same("what was sent to an empty one is not there later", late.register(1, 1), -1);
        for (int ending : new int[] {0, w(HOST, 0, 0, EXIT)}) {
            Fenced x = withWords(ending);
            x.load(2);
            x.run(1);
            x.clear();
            words(x, w(SET, 1, 0, 2), w(HOST, 0, 0, SEND));
            x.load(0);
            x.run(2);
            same("SEND to one that has ended, but is not empty", x.register(0, 1), 0);
        }
    }

    private void sendToAFullMailbox() {
        for (int from = 0; from < 3; from++) {
            for (int to = 0; to < 3; to++) {
                Fenced x = new Fenced();
                x.load(to);
                x.run(1);
                words(x, w(SET, 1, 0, to), w(COPY, 2, 2, 1), w(HOST, 0, 0, SEND), w(GO, 0, 0, -4));
                x.load(from);
                for (int n = 1; n <= 7; n++) {
                    x.run(3);
                    same("SEND " + n + " from " + from + " to " + to, x.register(from, 1), n <= 4 ? 0 : -1);
                    noted("it is noted", x, from, n - 1, SEND, to, n);
                    x.run(1);
                }
            }
        }
    }

    private void sendPutsIn() {
        for (int v : new int[] {0, -1, MOST, LEAST, 5}) {
            Fenced x = withWords(w(HOST, 0, 0, IN), w(COPY, 2, 1, 0), w(SET, 1, 0, 2), w(HOST, 0, 0, SEND));
            x.load(0);
            x.feed(0, v);
            x.clear();
            words(x, w(SET, 0, 0, 0), w(SET, 0, 0, 0), w(SET, 0, 0, 0), w(SET, 0, 0, 0), w(HOST, 0, 0, RECEIVE), w(GO, 0, 0, -1));
            x.load(2);
            x.load(1);
            x.run(30);
            same("answer", x.register(0, 1), 0);
            same("what 2 received", x.register(2, 1), v);
            same("what 1 received", x.register(1, 1), -1);
            same("the arguments", x.call(0, 1, 2), v);
        }
    }

    private void receive() {
        int send = w(HOST, 0, 0, SEND);
        int receive = w(HOST, 0, 0, RECEIVE);
        int next = w(COPY, 2, 2, 1);
        int own = w(SET, 1, 0, 1);
        Fenced x = withWords(next, own, send, next, own, send, next, own, send, receive, receive, next, own, send, receive, next, own, send, receive, receive, receive, receive);
        x.load(1);
        int[] ends = {10, 11, 15, 19, 20, 21, 22};
        int[] due = {1, 2, 3, 4, 5, -1, -1};
        int at = 0;
        for (int n = 0; n < ends.length; n++) {
            x.run(ends[n] - at);
            at = ends[n];
            same("RECEIVE " + n, x.register(1, 1), due[n]);
        }
    }

    private void receiveOfNone() {
        for (int k = 0; k < 3; k++) {
            Fenced x = asked(k, RECEIVE, 5, 6);
            same("RECEIVE", x.register(k, 1), -1);
            noted("it is noted", x, k, 2, RECEIVE, 0, 0);
        }
    }

    /** Four go in, the fifth does not; then the four come out, in their order; then four go in again. */
    private void fourWordsInAMailbox() {
        Fenced x = withWords(w(SET, 1, 0, 0), w(COPY, 2, 2, 1), w(HOST, 0, 0, SEND), w(SET, 4, 0, 5), w(COPY, 3, 3, 1), w(BLT, 3, 4, -6),
            w(HOST, 0, 0, RECEIVE), w(HOST, 0, 0, RECEIVE), w(HOST, 0, 0, RECEIVE), w(HOST, 0, 0, RECEIVE), w(HOST, 0, 0, RECEIVE), w(SET, 3, 0, 0), w(GO, 0, 0, -13));
        x.load(0);
        for (int round = 0; round < 3; round++) {
            for (int n = 1; n <= 5; n++) {
                x.run(3);
                same("SEND " + n, x.register(0, 1), n <= 4 ? 0 : -1);
                x.run(3);
            }
            for (int n = 1; n <= 5; n++) {
                x.run(1);
                same("RECEIVE " + n, x.register(0, 1), n <= 4 ? 5 * round + n : -1);
            }
            x.run(2);
        }
    }
}
