/** The edges of promises 18 and 19 and of FOLLOWING: for each sentence of the document a test of its own. */
public final class EdgesOfFollowingTest extends Check {
    private static final int MOST = Integer.MAX_VALUE;
    private static final int LEAST = Integer.MIN_VALUE;

    public static void main(String[] args) {
        EdgesOfFollowingTest test = new EdgesOfFollowingTest();
        test.promises();
        test.steps();
        test.reasons();
        test.host();
        test.end();
    }

    private void promises() {
        sentence("18: Follows the source for sandbox k for at most n steps, n from 0 to 300: the reason of its end", this::followTellsReasons);
        sentence("18: 0 when it did not end", this::followDidNotEnd);
        sentence("18: -1, with nothing changed, when n is another one", this::followRefusesSteps);
        sentence("18: k is not 0 .. 2", this::followRefusesSandboxes);
        sentence("18: or the source can't be rewritten for k", this::followRefusesSources);
        sentence("19: Of the call j of the latest following", this::traceOfTheLatest);
        sentence("19: that was not refused", this::traceAfterRefusals);
        sentence("19: as in call: 0 when there were not so many", this::traceOfFewer);
        sentence("19: as in call: j is not 0 .. 15", this::traceOutsideTheRange);
        sentence("19: as in call: what is none of these", this::traceWithOtherWhat);
        sentence("19: as in call: For j = -1, with any what, how many calls", this::traceTellsHowMany);
        sentence("19: as in call: what = 0 its number, 1 its first argument, 2 its second one (0 when it has none)", this::traceTellsArguments);
    }

    private void steps() {
        sentence("FOLLOWING: five registers r0 .. r4 and 16 words, at first 0", this::zeroAtFirst);
        sentence("FOLLOWING: a place, at first 0", this::placeAtFirst);
        sentence("FOLLOWING: A step does the line at the place, as the word with its op does", this::linesDoAsWords);
        sentence("FOLLOWING: All sums wrap", this::sumsWrap);
        sentence("FOLLOWING: BEQ and BLT at the edges of the ints", this::branches);
        sentence("FOLLOWING: JUMP goes to the place of the label in ra", this::jumps);
        sentence("FOLLOWING: it ENDS, in a step that does nothing else", this::endsInAStepOfItsOwn);
    }

    private void reasons() {
        sentence("FOLLOWING: 2 when the place is behind the last line", this::behindTheLastLine);
        sentence("FOLLOWING: 2 when the line is a TRAP", this::trap);
        sentence("FOLLOWING: 3 when a line takes a label for anything", this::labelTaken);
        sentence("FOLLOWING: but COPY with i = 0", this::copyOfALabel);
        sentence("FOLLOWING: but STORE of it, LOAD of it", this::storeAndLoadOfALabel);
        sentence("FOLLOWING: but JUMP", this::jumpToALabel);
        sentence("FOLLOWING: so also as an address", this::labelAsAddress);
        sentence("FOLLOWING: in BEQ and BLT", this::labelInBranches);
        sentence("FOLLOWING: as an argument of a host call", this::labelAsArgument);
        sentence("FOLLOWING: or by a PRINT that would put it out", this::labelPutOut);
        sentence("FOLLOWING: what is only overwritten isn't taken", this::labelOverwritten);
        sentence("FOLLOWING: 4 when a JUMP goes to an int", this::jumpToAnInt);
        sentence("FOLLOWING: 5 when the address is not 0 .. 15", this::noAddress);
        sentence("FOLLOWING: If 3 and 5 both hold, it is 3", this::labelBeforeAddress);
        sentence("FOLLOWING: EXIT ends it with 1, in the step in which it is noted", this::exit);
    }

    private void host() {
        sentence("FOLLOWING: host calls are answered as if it were a newly loaded sandbox k", this::answersAsNewlyLoaded);
        sentence("FOLLOWING: which takes all inputs that k has got since it was loaded from the first one on", this::takesAllInputs);
        sentence("FOLLOWING: with an own BREAK", this::ownBreak);
        sentence("FOLLOWING: SEND and RECEIVE answer -1", this::sendAndReceive);
        sentence("FOLLOWING: What it puts out goes nowhere", this::putsOutNothing);
    }

    /** Ends with the reason in the step behind as many lines, and in none before. */
    private void endsAfter(String what, Fenced x, int lines, int reason) {
        for (int k = 0; k < 3; k++) {
            for (int n = 0; n <= lines; n++) {
                same(what + ": follow(" + k + ", " + n + ")", x.follow(k, n), 0);
            }
            same(what + ": follow(" + k + ", " + (lines + 1) + ")", x.follow(k, lines + 1), reason);
            same(what + ": follow(" + k + ", 300)", x.follow(k, 300), reason);
        }
    }

    private static Fenced withLabelsAtZero(int... fields) {
        Fenced x = new Fenced();
        for (int n = 0; n < 8; n++) {
            x.mark(n);
        }
        lines(x, fields);
        return x;
    }

    /** One line, then a GO back to it: two steps a round, without end. */
    private static Fenced round(int op, int a, int b, int i) {
        return withLabelsAtZero(op, a, b, i, GO, 0, 0, 7);
    }

    private void followTellsReasons() {
        int[][] sources = {{HOST, 0, 0, EXIT}, {TRAP, 0, 0, 0}, {JUMP, 0, 0, 0}, {LOAD, 0, 0, 16}};
        int[] due = {1, 2, 4, 5};
        for (int s = 0; s < sources.length; s++) {
            for (int k = 0; k < 3; k++) {
                for (int n : new int[] {1, 2, 299, 300}) {
                    same("follow(" + k + ", " + n + ")", withLines(sources[s]).follow(k, n), due[s]);
                }
            }
        }
        same("reason 3", withLabelsAtZero(LABEL, 0, 0, 0, ADD, 0, 0, 0).follow(2, 300), 3);
        same("no lines", new Fenced().follow(0, 300), 2);
    }

    private void followDidNotEnd() {
        for (int k = 0; k < 3; k++) {
            same("no steps, no lines", new Fenced().follow(k, 0), 0);
            same("no steps, EXIT", withLines(HOST, 0, 0, EXIT).follow(k, 0), 0);
            Fenced x = round(HOST, 0, 0, OUT);
            same("300 steps", x.follow(k, 300), 0);
            same("150 calls", x.trace(-1, 0), 150);
            same("299 steps", x.follow(k, 299), 0);
            same("150 calls", x.trace(-1, 0), 150);
            same("298 steps", x.follow(k, 298), 0);
            same("149 calls", x.trace(-1, 0), 149);
            same("1 step", x.follow(k, 1), 0);
            same("one call", x.trace(-1, 0), 1);
        }
    }

    private void followRefusesSteps() {
        for (int n : outside(300)) {
            Fenced x = withLines(HOST, 0, 0, OUT, HOST, 0, 0, IN);
            x.rewrite(0);
            x.load(0);
            x.follow(0, 300);
            String before = picture(x);
            for (int k = 0; k < 3; k++) {
                same("follow(" + k + ", " + n + ")", x.follow(k, n), -1);
            }
            sameText("nothing is changed", picture(x), before);
        }
    }

    private void followRefusesSandboxes() {
        for (int k : outside(2)) {
            Fenced x = withLines(HOST, 0, 0, OUT, HOST, 0, 0, IN);
            x.follow(1, 300);
            String before = picture(x);
            for (int n : new int[] {0, 1, 300, 301, -1}) {
                same("follow(" + k + ", " + n + ")", x.follow(k, n), -1);
            }
            sameText("nothing is changed", picture(x), before);
        }
    }

    private void refusesSource(String why, int... fields) {
        Fenced x = withLines(HOST, 0, 0, OUT);
        x.follow(0, 300);
        lines(x, fields);
        String before = picture(x);
        for (int k = 0; k < 3; k++) {
            same(why + ": follow(" + k + ", 300)", x.follow(k, 300), -1);
            same(why + ": follow(" + k + ", 0)", x.follow(k, 0), -1);
        }
        sameText(why + ": nothing is changed", picture(x), before);
    }

    private void followRefusesSources() {
        refusesSource("a register from 5 on", HOST, 0, 0, EXIT, SET, 5, 0, 0);
        refusesSource("rb from 5 on", HOST, 0, 0, EXIT, COPY, 0, 7, 0);
        refusesSource("a label that is not set", HOST, 0, 0, EXIT, GO, 0, 0, 0);
        refusesSource("a label that there is not", HOST, 0, 0, EXIT, LABEL, 0, 0, 8);
        refusesSource("host call 7", HOST, 0, 0, EXIT, HOST, 0, 0, 7);
        refusesSource("32 words", LOAD, 0, 0, 0, LOAD, 0, 0, 0, LOAD, 0, 0, 0, LOAD, 0, 0, 0, LOAD, 0, 0, 0, LOAD, 0, 0, 0, LOAD, 0, 0, 0, SET, 0, 0, 0, SET, 0, 0, 0);
        Fenced most = withLines(HOST, 0, 0, EXIT, LOAD, 0, 0, 0, LOAD, 0, 0, 0, LOAD, 0, 0, 0, LOAD, 0, 0, 0, LOAD, 0, 0, 0, LOAD, 0, 0, 0, LOAD, 0, 0, 0, SET, 0, 0, 0);
        same("31 words", most.follow(0, 300), 1);
    }

    private void traceOfTheLatest() {
        Fenced x = withLines(SET, 1, 0, 7, HOST, 0, 0, OUT, HOST, 0, 0, IN);
        same("no following yet", x.trace(-1, 0), 0);
        same("no following yet", x.trace(0, 0), 0);
        x.follow(0, 300);
        same("two calls", x.trace(-1, 0), 2);
        same("the first", x.trace(0, 1), 7);
        x.follow(0, 2);
        same("one call", x.trace(-1, 0), 1);
        same("the second is gone", x.trace(1, 0), 0);
        x.follow(0, 0);
        same("no call in no steps", x.trace(-1, 0), 0);
        same("the first is gone", x.trace(0, 1), 0);
        x.follow(2, 300);
        x.clear();
        same("clear does not follow", x.trace(-1, 0), 2);
        same("the first stays", x.trace(0, 1), 7);
        x.load(2);
        x.run(5);
        same("load and run do not follow", x.trace(-1, 0), 2);
        x.follow(1, 300);
        same("of no lines", x.trace(-1, 0), 0);
    }

    private void traceAfterRefusals() {
        Fenced x = withLines(SET, 1, 0, 7, HOST, 0, 0, OUT);
        x.follow(0, 300);
        x.follow(3, 300);
        x.follow(-1, 0);
        x.follow(0, 301);
        x.follow(0, -1);
        x.line(SET, 5, 0, 0);
        x.follow(0, 0);
        same("how many", x.trace(-1, 0), 1);
        same("its number", x.trace(0, 0), OUT);
        same("its argument", x.trace(0, 1), 7);
    }

    /** Puts out 1, 2, 3, .. in rounds of four steps. */
    private static Fenced counting(int steps) {
        Fenced x = withLabelsAtZero(COPY, 3, 3, 1, COPY, 1, 3, 0, HOST, 0, 0, OUT, GO, 0, 0, 0);
        x.follow(1, steps);
        return x;
    }

    private void traceOfFewer() {
        for (int n = 0; n <= 17; n++) {
            Fenced x = counting(4 * n);
            for (int j = 0; j < 16; j++) {
                same("number of call " + j + " of " + n, x.trace(j, 0), j < n ? OUT : 0);
                same("argument of call " + j + " of " + n, x.trace(j, 1), j < n ? j + 1 : 0);
                same("second argument of call " + j + " of " + n, x.trace(j, 2), 0);
            }
        }
    }

    private void traceOutsideTheRange() {
        Fenced x = counting(300);
        same("call 15", x.trace(15, 1), 16);
        for (int j : new int[] {16, 17, 31, 32, 74, 75, -2, -3, -16, 1000, MOST, LEAST}) {
            for (int what = 0; what < 3; what++) {
                same("trace(" + j + ", " + what + ")", x.trace(j, what), 0);
            }
        }
    }

    private void traceWithOtherWhat() {
        Fenced x = withLines(SET, 1, 0, 3, SET, 2, 0, 4, HOST, 0, 0, PRINT);
        x.follow(0, 300);
        for (int what : outside(2)) {
            same("trace(0, " + what + ")", x.trace(0, what), 0);
        }
        same("trace(0, 2)", x.trace(0, 2), 4);
    }

    private void traceTellsHowMany() {
        for (int n : new int[] {0, 1, 15, 16, 17, 75}) {
            Fenced x = counting(4 * n);
            for (int what : new int[] {0, 1, 2, 3, -1, MOST, LEAST}) {
                same("trace(-1, " + what + ")", x.trace(-1, what), n);
            }
        }
    }

    private void traceTellsArguments() {
        int[] arguments = {0, 1, 0, 1, 2, 2, 0};
        for (int number = 0; number <= 6; number++) {
            Fenced x = withLines(SET, 1, 0, 55, SET, 2, 0, 66, HOST, 0, 0, number);
            x.follow(0, 300);
            sameText("call " + number, text(x.trace(0, 0), x.trace(0, 1), x.trace(0, 2)),
                text(number, arguments[number] > 0 ? 55 : 0, arguments[number] > 1 ? 66 : 0));
        }
    }

    /** What r1 is after the lines, as OUT tells it; k has got the inputs. */
    private int r1After(int[] inputs, int... fields) {
        Fenced x = new Fenced();
        x.load(1);
        for (int v : inputs) {
            x.feed(1, v);
        }
        lines(x, fields);
        lines(x, HOST, 0, 0, OUT, HOST, 0, 0, EXIT);
        same("the lines are done", x.follow(1, 300), 1);
        int last = x.trace(-1, 0) - 2;
        same("and r1 is put out", x.trace(last, 0), OUT);
        return x.trace(last, 1);
    }

    private void zeroAtFirst() {
        for (int r = 0; r < 5; r++) {
            same("r" + r, r1After(new int[0], COPY, 1, r, 0), 0);
        }
        for (int word = 0; word < 16; word++) {
            same("word " + word, r1After(new int[0], SET, 1, 0, 5, LOAD, 1, 0, word), 0);
        }
        Fenced again = withLines(COPY, 1, 4, 0, HOST, 0, 0, OUT, LOAD, 1, 0, 15, HOST, 0, 0, OUT, SET, 4, 0, 9, LABEL, 3, 0, 0, STORE, 4, 0, 15, STORE, 3, 0, 14, LABEL, 0, 0, 0);
        again.mark(0);
        for (int n = 0; n < 3; n++) {
            same("follow", again.follow(n, 300), 2);
            same("r4 is 0 again", again.trace(0, 1), 0);
            same("word 15 is 0 again", again.trace(1, 1), 0);
        }
        again.clear();
        lines(again, ADD, 3, 0, 0, LOAD, 1, 0, 14, ADD, 1, 1, 0, HOST, 0, 0, OUT);
        same("no label is left", again.follow(0, 300), 2);
        same("r1", again.trace(0, 1), 0);
    }

    private void placeAtFirst() {
        Fenced x = withLines(HOST, 0, 0, IN, HOST, 0, 0, RECEIVE);
        x.follow(0, 2);
        x.follow(0, 1);
        same("it begins with the first line", x.trace(0, 0), IN);
        same("one line", x.trace(-1, 0), 1);
    }

    private void linesDoAsWords() {
        int[] none = {};
        same("SET", r1After(none, SET, 1, 7, LEAST_I), LEAST_I);
        same("COPY", r1After(none, SET, 2, 0, 5, COPY, 1, 2, MOST_I), 5 + MOST_I);
        same("ADD", r1After(none, SET, 1, 0, 5, SET, 2, 0, 7, ADD, 1, 2, 99), 12);
        same("SUB", r1After(none, SET, 1, 0, 5, SET, 2, 0, 7, SUB, 1, 2, 99), -2);
        same("XOR", r1After(none, SET, 1, 0, 5, SET, 2, 0, 7, XOR, 1, 2, 99), 2);
        same("AND", r1After(none, SET, 1, 0, 8, SET, 2, 0, -1, AND, 1, 2, LEAST_I), LEAST_I);
        same("OR", r1After(none, SET, 1, 0, 8, SET, 2, 0, 0, OR, 1, 2, LEAST_I), LEAST_I);
        for (int word = 0; word < 16; word++) {
            same("STORE and LOAD of word " + word, r1After(none, SET, 2, 0, 77, STORE, 2, 0, word, SET, 3, 0, 100, LOAD, 1, 3, word - 100), 77);
        }
        int[] byItself = {SET, 2, 0, 2, STORE, 2, 0, 3, LOAD, 0, 0, 3};
        same("LOAD of r0 at r0 + 3", r1After(none, concat(byItself, COPY, 1, 0, 0)), 2);
        for (int word = 0; word < 16; word++) {
            same("word " + word + " after it", r1After(none, concat(byItself, SET, 3, 0, word, LOAD, 1, 3, 0)), word == 3 ? 2 : 0);
        }
        same("STORE of r2 at r2 + 3", r1After(none, SET, 2, 0, 4, STORE, 2, 2, 3, LOAD, 1, 0, 7), 4);
        same("STORE of the first is not the last", r1After(none, SET, 2, 0, 77, STORE, 2, 0, 0, LOAD, 1, 0, 15), 0);
        same("GO", withLabelsAtZero(GO, 7, 7, 0).follow(0, 300), 0);
        same("HOST with a and b 7", withLines(HOST, 7, 7, EXIT).follow(0, 300), 1);
    }

    private static int[] concat(int[] first, int... then) {
        int[] all = java.util.Arrays.copyOf(first, first.length + then.length);
        System.arraycopy(then, 0, all, first.length, then.length);
        return all;
    }

    private void sumsWrap() {
        int[] edges = {MOST, LEAST};
        same("COPY the most + 1", r1After(edges, HOST, 0, 0, IN, COPY, 1, 1, 1), LEAST);
        same("COPY the least - 1", r1After(edges, HOST, 0, 0, IN, HOST, 0, 0, IN, COPY, 1, 1, -1), MOST);
        same("ADD the most to itself", r1After(edges, HOST, 0, 0, IN, ADD, 1, 1, 0), -2);
        same("ADD the least to itself", r1After(edges, HOST, 0, 0, IN, HOST, 0, 0, IN, ADD, 1, 1, 0), 0);
        same("SUB the most from the least", r1After(edges, HOST, 0, 0, IN, COPY, 2, 1, 0, HOST, 0, 0, IN, SUB, 1, 2, 0), 1);
        same("SUB the least from 0", r1After(new int[] {LEAST}, HOST, 0, 0, IN, COPY, 2, 1, 0, SET, 1, 0, 0, SUB, 1, 2, 0), LEAST);
    }

    private void branch(int op, int left, int right, boolean goes) {
        Fenced x = new Fenced();
        x.load(0);
        x.feed(0, right);
        x.feed(0, left);
        lines(x, HOST, 0, 0, IN, COPY, 2, 1, 0, HOST, 0, 0, IN, op, 1, 2, 5, TRAP, 0, 0, 0);
        x.mark(5);
        lines(x, HOST, 0, 0, EXIT);
        same("op " + op + " of " + left + ", " + right, x.follow(0, 300), goes ? 1 : 2);
    }

    private void branches() {
        branch(BEQ, MOST, MOST, true);
        branch(BEQ, LEAST, LEAST, true);
        branch(BEQ, MOST, LEAST, false);
        branch(BEQ, 0, 0, true);
        branch(BEQ, 0, 1, false);
        branch(BLT, LEAST, MOST, true);
        branch(BLT, MOST, LEAST, false);
        branch(BLT, LEAST, 1, true);
        branch(BLT, 5, 5, false);
        branch(BLT, 5, 6, true);
        branch(BLT, 6, 5, false);
        branch(GO, 6, 5, true);
    }

    private void jumps() {
        for (int r = 0; r < 5; r++) {
            Fenced x = withLines(LABEL, r, 0, 6, LABEL, (r + 1) % 5, 0, 2, JUMP, r, 7, MOST_I, TRAP, 0, 0, 0);
            x.mark(6);
            lines(x, SET, 1, 0, 1, HOST, 0, 0, EXIT);
            x.mark(2);
            same("JUMP by r" + r, x.follow(0, 300), 1);
        }
        Fenced back = withLabelsAtZero(HOST, 0, 0, OUT, LABEL, 0, 0, 3, JUMP, 0, 0, 0);
        same("JUMP to place 0", back.follow(0, 300), 0);
        same("again and again", back.trace(-1, 0), 100);
        Fenced behind = withLines(LABEL, 0, 0, 3, JUMP, 0, 0, 0, HOST, 0, 0, EXIT);
        behind.mark(3);
        endsAfter("JUMP behind the last line", behind, 2, 2);
    }

    private void endsInAStepOfItsOwn() {
        endsAfter("behind the last line", withLines(SET, 0, 0, 0, SET, 0, 0, 0), 2, 2);
        endsAfter("a TRAP", withLines(SET, 0, 0, 0, TRAP, 0, 0, 0), 1, 2);
        endsAfter("a label that is taken", withLabelsAtZero(LABEL, 0, 0, 0, SET, 1, 0, 0, ADD, 0, 1, 0), 2, 3);
        endsAfter("a JUMP to an int", withLines(SET, 0, 0, 0, JUMP, 0, 0, 0), 1, 4);
        endsAfter("an address that there is not", withLines(SET, 0, 0, 0, STORE, 0, 0, 16), 1, 5);
        Fenced x = withLabelsAtZero(LABEL, 1, 0, 0, HOST, 0, 0, OUT);
        same("a call that takes a label", x.follow(0, 300), 3);
        same("is not noted", x.trace(-1, 0), 0);
    }

    private void behindTheLastLine() {
        endsAfter("no lines", new Fenced(), 0, 2);
        Fenced full = new Fenced();
        for (int n = 0; n < 24; n++) {
            lines(full, SET, 0, 0, n);
        }
        endsAfter("24 lines", full, 24, 2);
        for (int op : new int[] {BEQ, GO}) {
            Fenced x = withLines(op, 0, 0, 1, HOST, 0, 0, EXIT);
            x.mark(1);
            endsAfter("op " + op + " to behind the last line", x, 1, 2);
        }
    }

    private void trap() {
        endsAfter("TRAP with other fields", withLines(TRAP, 7, 7, LEAST_I, HOST, 0, 0, EXIT), 0, 2);
        Fenced x = withLines(HOST, 0, 0, OUT, TRAP, 0, 0, 0, HOST, 0, 0, OUT);
        same("follow", x.follow(0, 300), 2);
        same("nothing behind it is done", x.trace(-1, 0), 1);
    }

    private void labelTaken() {
        int[][] taking = {{COPY, 1, 0, 1}, {COPY, 1, 0, -1}, {COPY, 0, 0, MOST_I}, {COPY, 1, 0, LEAST_I}, {ADD, 0, 1, 0}, {ADD, 1, 0, 0}, {ADD, 0, 0, 0},
            {SUB, 0, 1, 0}, {SUB, 1, 0, 0}, {SUB, 0, 0, 0}, {XOR, 0, 1, 0}, {XOR, 1, 0, 0}, {XOR, 0, 0, 0},
            {AND, 1, 0, 0}, {AND, 0, 0, -1}, {AND, 1, 0, 31}, {OR, 1, 0, 0}, {OR, 0, 0, 0}, {OR, 1, 0, -1}};
        for (int[] f : taking) {
            for (int label = 0; label < 8; label += 7) {
                Fenced x = withLabelsAtZero(LABEL, 0, 0, label, f[0], f[1], f[2], f[3]);
                endsAfter("op " + f[0] + " of r" + f[1] + ", r" + f[2] + ", " + f[3], x, 1, 3);
            }
        }
        for (int r = 0; r < 5; r++) {
            endsAfter("ADD of r" + r, withLabelsAtZero(LABEL, r, 0, 0, ADD, r, (r + 1) % 5, 0), 1, 3);
            endsAfter("OR of r" + r, withLabelsAtZero(LABEL, r, 0, 0, OR, (r + 1) % 5, r, 0), 1, 3);
        }
    }

    private void copyOfALabel() {
        for (int from = 0; from < 5; from++) {
            for (int to = 0; to < 5; to++) {
                Fenced x = withLines(LABEL, from, 0, 2, COPY, to, from, 0, JUMP, to, 0, 0, TRAP, 0, 0, 0);
                x.mark(2);
                lines(x, JUMP, from, 0, 0);
                same("COPY of a label in r" + from + " to r" + to, x.follow(0, 3), 0);
                same("it is there still", x.follow(0, 300), 0);
            }
        }
    }

    private void storeAndLoadOfALabel() {
        for (int word = 0; word < 16; word++) {
            Fenced x = withLines(LABEL, 0, 0, 2, STORE, 0, 4, word, SET, 0, 0, 5, LOAD, 3, 4, word, JUMP, 3, 0, 0, TRAP, 0, 0, 0);
            x.mark(2);
            lines(x, HOST, 0, 0, EXIT);
            same("by word " + word, x.follow(0, 300), 1);
        }
        Fenced beside = withLines(LABEL, 0, 0, 2, STORE, 0, 4, 7, LOAD, 1, 4, 6, LOAD, 2, 4, 8, ADD, 1, 2, 0);
        beside.mark(2);
        same("the words beside it are ints", beside.follow(0, 300), 2);
        Fenced taken = withLines(LABEL, 0, 0, 2, STORE, 0, 4, 7, LOAD, 1, 4, 7, ADD, 1, 2, 0);
        taken.mark(2);
        endsAfter("what is loaded is a label", taken, 3, 3);
    }

    private void jumpToALabel() {
        for (int label = 0; label < 8; label++) {
            Fenced x = withLines(LABEL, 0, 0, label, JUMP, 0, 0, 0, TRAP, 0, 0, 0);
            x.mark(label);
            lines(x, HOST, 0, 0, EXIT);
            x.mark((label + 1) % 8);
            same("JUMP to label " + label, x.follow(0, 300), 1);
            same("three steps", x.follow(0, 3), 1);
        }
    }

    private void labelAsAddress() {
        for (int op = LOAD; op <= STORE; op++) {
            for (int i : new int[] {0, 1, 15}) {
                endsAfter("op " + op + " at a label + " + i, withLabelsAtZero(LABEL, 0, 0, 0, op, 1, 0, i), 1, 3);
                endsAfter("op " + op + " of a label at itself + " + i, withLabelsAtZero(LABEL, 0, 0, 0, op, 0, 0, i), 1, 3);
            }
        }
    }

    private void labelInBranches() {
        for (int op = BEQ; op <= BLT; op++) {
            endsAfter("op " + op + " of a label and an int", withLabelsAtZero(LABEL, 0, 0, 0, op, 0, 1, 0), 1, 3);
            endsAfter("op " + op + " of an int and a label", withLabelsAtZero(LABEL, 0, 0, 0, op, 1, 0, 0), 1, 3);
            endsAfter("op " + op + " of a label and itself", withLabelsAtZero(LABEL, 0, 0, 0, op, 0, 0, 0), 1, 3);
            endsAfter("op " + op + " of two labels", withLabelsAtZero(LABEL, 0, 0, 0, LABEL, 1, 0, 1, op, 0, 1, 0), 2, 3);
        }
        same("GO does not take what is in its fields", withLabelsAtZero(LABEL, 0, 0, 0, GO, 0, 0, 0).follow(0, 300), 0);
    }

    private void labelAsArgument() {
        int[] arguments = {0, 1, 0, 1, 2, 2, 0};
        for (int number = 0; number <= 6; number++) {
            for (int r = 0; r < 5; r++) {
                Fenced x = withLabelsAtZero(LABEL, r, 0, 0, HOST, 0, 0, number, TRAP, 0, 0, 0);
                boolean taken = r == 1 && arguments[number] > 0 || r == 2 && arguments[number] > 1;
                same("a label in r" + r + ", call " + number, x.follow(0, 300), taken ? 3 : number == EXIT ? 1 : 2);
                same("how many are noted", x.trace(-1, 0), taken ? 0 : 1);
                same("the arguments", x.trace(0, 1) * 100 + x.trace(0, 2), 0);
            }
        }
        Fenced negative = withLabelsAtZero(LABEL, 2, 0, 0, SET, 1, 0, -1, HOST, 0, 0, PRINT);
        same("r2 of a PRINT that would be refused", negative.follow(0, 300), 3);
        Fenced nobody = withLabelsAtZero(LABEL, 2, 0, 0, SET, 1, 0, 9, HOST, 0, 0, SEND);
        same("r2 of a SEND to nobody", nobody.follow(0, 300), 3);
    }

    private void labelPutOut() {
        for (int at : new int[] {0, 7, 15}) {
            for (int start = -1; start <= 17; start++) {
                for (int length = -1; length <= 17; length++) {
                    Fenced x = withLabelsAtZero(LABEL, 0, 0, 0, STORE, 0, 4, at, SET, 1, 0, start, SET, 2, 0, length, HOST, 0, 0, PRINT, HOST, 0, 0, OUT, TRAP, 0, 0, 0);
                    boolean prints = start >= 0 && length >= 0 && start + length <= 16;
                    boolean putsOut = prints && start <= at && at < start + length;
                    String what = "a label at " + at + ", PRINT " + start + ", " + length;
                    same(what, x.follow(0, 300), putsOut ? 3 : 2);
                    same(what + ": calls", x.trace(-1, 0), putsOut ? 0 : 2);
                    same(what + ": answer", x.trace(1, 1), putsOut ? 0 : prints ? length : -1);
                }
            }
        }
        Fenced wrapping = new Fenced();
        wrapping.load(0);
        wrapping.feed(0, MOST);
        wrapping.mark(0);
        lines(wrapping, LABEL, 0, 0, 0, STORE, 0, 4, 3, HOST, 0, 0, IN, COPY, 2, 1, 0, HOST, 0, 0, PRINT, HOST, 0, 0, OUT);
        same("a PRINT whose sum would wrap puts nothing out", wrapping.follow(0, 300), 2);
        same("its answer", wrapping.trace(2, 1), -1);
    }

    private void labelOverwritten() {
        int[][] over = {{SET, 0, 0, 1}, {COPY, 0, 1, 0}, {COPY, 0, 1, 5}, {AND, 0, 1, 7}, {OR, 0, 1, 7}, {LOAD, 0, 1, 3}};
        for (int[] f : over) {
            endsAfter("op " + f[0], withLabelsAtZero(LABEL, 0, 0, 0, f[0], f[1], f[2], f[3], ADD, 0, 0, 0), 3, 2);
            endsAfter("op " + f[0] + ", then JUMP", withLabelsAtZero(LABEL, 0, 0, 0, f[0], f[1], f[2], f[3], JUMP, 0, 0, 0), 2, 4);
        }
        Fenced label = withLines(LABEL, 0, 0, 0, LABEL, 0, 0, 1, JUMP, 0, 0, 0);
        label.mark(0);
        lines(label, TRAP, 0, 0, 0);
        label.mark(1);
        lines(label, HOST, 0, 0, EXIT);
        same("LABEL over a label", label.follow(0, 300), 1);
        endsAfter("STORE over a label", withLabelsAtZero(LABEL, 0, 0, 0, STORE, 0, 4, 3, STORE, 4, 4, 3, LOAD, 0, 4, 3, ADD, 0, 0, 0), 5, 2);
        for (int number : new int[] {IN, RECEIVE}) {
            Fenced x = withLabelsAtZero(LABEL, 1, 0, 0, HOST, 0, 0, number, HOST, 0, 0, OUT);
            same("the answer of call " + number + " over a label", x.follow(0, 300), 2);
            same("it is -1", x.trace(1, 1), -1);
        }
    }

    private void jumpToAnInt() {
        for (int r = 0; r < 5; r++) {
            endsAfter("JUMP to 0 in r" + r, withLines(JUMP, r, 0, 0, HOST, 0, 0, EXIT), 0, 4);
        }
        for (int v : new int[] {0, 1, 2, 64, 65, 66, -1, MOST_I}) {
            endsAfter("JUMP to " + v, withLines(SET, 0, 0, v, JUMP, 0, 0, 0, HOST, 0, 0, EXIT), 1, 4);
        }
        endsAfter("JUMP beside a label", withLabelsAtZero(LABEL, 1, 0, 0, JUMP, 0, 0, 0), 1, 4);
    }

    private void noAddress() {
        for (int op = LOAD; op <= STORE; op++) {
            for (int i : new int[] {-1, -2, -16, 16, 17, 32, MOST_I, LEAST_I}) {
                endsAfter("op " + op + " at " + i, withLines(op, 1, 0, i), 0, 5);
            }
            for (int i : new int[] {0, 1, 14, 15}) {
                endsAfter("op " + op + " at " + i, withLines(op, 1, 0, i), 1, 2);
                endsAfter("op " + op + " at 100 + " + (i - 100), withLines(SET, 0, 0, 100, op, 1, 0, i - 100), 2, 2);
            }
            for (int[] f : new int[][] {{MOST, 1}, {LEAST, -1}, {MOST, MOST_I}, {LEAST, LEAST_I}, {MOST, 0}, {LEAST, 0}, {16, 0}, {-1, 0}, {15, 1}, {0, -1}}) {
                Fenced x = new Fenced();
                x.load(1);
                x.feed(1, f[0]);
                lines(x, HOST, 0, 0, IN, op, 2, 1, f[1]);
                same("op " + op + " at " + f[0] + " + " + f[1], x.follow(1, 300), 5);
            }
        }
        endsAfter("STORE of a label at 16", withLabelsAtZero(LABEL, 0, 0, 0, STORE, 0, 1, 16), 1, 5);
        endsAfter("LOAD at 16 over a label", withLabelsAtZero(LABEL, 0, 0, 0, LOAD, 0, 1, 16), 1, 5);
    }

    private void labelBeforeAddress() {
        for (int op = LOAD; op <= STORE; op++) {
            for (int i : new int[] {-1, 16, 1000, MOST_I, LEAST_I}) {
                endsAfter("op " + op + " at a label + " + i, withLabelsAtZero(LABEL, 0, 0, 0, op, 1, 0, i), 1, 3);
                endsAfter("op " + op + " over " + i + " and a label", withLabelsAtZero(SET, 0, 0, 16, LABEL, 0, 0, 0, op, 1, 0, i), 2, 3);
            }
        }
    }

    private void exit() {
        Fenced x = withLines(SET, 1, 0, 5, HOST, 0, 0, EXIT, HOST, 0, 0, OUT);
        for (int k = 0; k < 3; k++) {
            same("one step", x.follow(k, 1), 0);
            same("not noted yet", x.trace(-1, 0), 0);
            for (int n : new int[] {2, 3, 300}) {
                same(n + " steps", x.follow(k, n), 1);
                same("noted", x.trace(-1, 0), 1);
                same("without arguments", x.trace(0, 1), 0);
            }
        }
        same("EXIT as the first line", withLines(HOST, 0, 0, EXIT).follow(0, 1), 1);
    }

    private void answersAsNewlyLoaded() {
        int[] none = {};
        same("OUT", r1After(none, SET, 1, 0, 5, HOST, 0, 0, OUT), 0);
        same("IN", r1After(none, SET, 1, 0, 5, HOST, 0, 0, IN), -1);
        for (int size = -1; size <= 17; size++) {
            same("ALLOC " + size, r1After(none, SET, 1, 0, size, HOST, 0, 0, ALLOC), size >= 1 && size <= 16 ? 0 : -1);
        }
        for (int start = -1; start <= 17; start++) {
            for (int length = -1; length <= 17; length++) {
                int due = start >= 0 && length >= 0 && start + length <= 16 ? length : -1;
                same("PRINT " + start + ", " + length, r1After(none, SET, 1, 0, start, SET, 2, 0, length, HOST, 0, 0, PRINT), due);
            }
        }
        same("PRINT whose sum would wrap", r1After(new int[] {MOST}, HOST, 0, 0, IN, COPY, 2, 1, 0, HOST, 0, 0, PRINT), -1);
        same("ALLOC of the most", r1After(new int[] {MOST}, HOST, 0, 0, IN, HOST, 0, 0, ALLOC), -1);
        same("ALLOC of the least", r1After(new int[] {LEAST}, HOST, 0, 0, IN, HOST, 0, 0, ALLOC), -1);
        same("r2 stays", r1After(none, SET, 2, 0, 8, HOST, 0, 0, OUT, COPY, 1, 2, 0), 8);
    }

    /** IN and OUT in turn: 24 lines are too few for 13 inputs, so it is a round. */
    private void takesAllInputs() {
        Fenced x = withLabelsAtZero(HOST, 0, 0, IN, HOST, 0, 0, OUT, GO, 0, 0, 0);
        install(x, 1);
        for (int n = 0; n < 12; n++) {
            x.feed(1, 50 + n);
            x.run(2);
            for (int again = 0; again < 2; again++) {
                same("follow", x.follow(1, 24), 0);
                for (int j = 1; j < 16; j += 2) {
                    same("input " + j / 2 + " of " + (n + 1), x.trace(j, 1), j / 2 <= n ? 50 + j / 2 : -1);
                }
            }
        }
        x.follow(0, 24);
        same("of an empty one", x.trace(1, 1), -1);
        x.load(2);
        x.feed(2, 99);
        x.follow(2, 24);
        same("of another one", x.trace(1, 1), 99);
        same("and no more", x.trace(3, 1), -1);
        x.load(1);
        x.follow(1, 24);
        same("none since it was loaded", x.trace(1, 1), -1);
        Fenced last = withLabelsAtZero(HOST, 0, 0, IN, COPY, 3, 3, 1, SET, 4, 0, 12, BLT, 3, 4, 0, HOST, 0, 0, OUT, HOST, 0, 0, IN, HOST, 0, 0, OUT);
        last.load(0);
        for (int n = 0; n < 13; n++) {
            last.feed(0, 60 + n);
        }
        same("follow", last.follow(0, 300), 2);
        same("the twelfth input", last.trace(12, 1), 71);
        same("there is no thirteenth", last.trace(14, 1), -1);
        last.run(500);
        same("one that has ended keeps its inputs", last.follow(0, 300), 2);
        same("the twelfth input", last.trace(12, 1), 71);
    }

    private void ownBreak() {
        Fenced x = withLines(SET, 1, 0, 10, HOST, 0, 0, ALLOC, HOST, 0, 0, OUT, SET, 1, 0, 6, HOST, 0, 0, ALLOC, HOST, 0, 0, OUT, SET, 1, 0, 1, HOST, 0, 0, ALLOC, HOST, 0, 0, OUT);
        install(x, 0);
        x.run(4);
        for (int again = 0; again < 2; again++) {
            same("follow", x.follow(0, 300), 2);
            same("the first ALLOC", x.trace(1, 1), 0);
            same("the second ALLOC", x.trace(3, 1), 10);
            same("the third ALLOC", x.trace(5, 1), -1);
        }
        x.run(2);
        same("the sandbox's own goes on", x.output(0, 0), 10);
    }

    private void sendAndReceive() {
        for (int to = -1; to < 4; to++) {
            Fenced x = withLines(SET, 1, 0, to, SET, 2, 0, 77, HOST, 0, 0, SEND, HOST, 0, 0, OUT, HOST, 0, 0, RECEIVE, HOST, 0, 0, OUT);
            for (int k = 0; k < 3; k++) {
                x.rewrite(k);
                x.load(k);
            }
            x.run(27);
            same("follow", x.follow(1, 300), 2);
            same("SEND to " + to, x.trace(1, 1), -1);
            same("RECEIVE", x.trace(3, 1), -1);
            same("SEND is noted", x.trace(0, 2), 77);
        }
        Fenced own = withLines(SET, 1, 0, 0, SET, 2, 0, 77, HOST, 0, 0, SEND, HOST, 0, 0, RECEIVE, HOST, 0, 0, RECEIVE);
        install(own, 0);
        own.run(3);
        own.follow(0, 300);
        own.run(1);
        same("the sandbox's mail is not taken", own.register(0, 1), 77);
        own.run(1);
        same("and none was put in", own.register(0, 1), -1);
    }

    private void putsOutNothing() {
        Fenced x = withLines(SET, 1, 0, 5, HOST, 0, 0, OUT, SET, 1, 0, 0, SET, 2, 0, 3, HOST, 0, 0, PRINT, STORE, 2, 0, 0, HOST, 0, 0, IN, HOST, 0, 0, EXIT);
        install(x, 1);
        x.feed(1, 8);
        x.run(2);
        String before = picture(x).split("\ntrace")[0];
        for (int k = 0; k < 3; k++) {
            same("follow", x.follow(k, 300), 1);
            same("its calls", x.trace(-1, 0), 4);
        }
        sameText("all but the trace stays", picture(x).split("\ntrace")[0], before);
        same("the sandbox goes on", x.run(500), 9);
        same("its IN", x.register(1, 1), 8);
        same("its outputs", x.output(1, -1), 4);
    }
}
