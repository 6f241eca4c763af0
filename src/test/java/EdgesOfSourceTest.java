/** The edges of promises 1 to 5 and of SOURCE and REWRITTEN: for each sentence of the document a test of its own. */
public final class EdgesOfSourceTest extends Check {
    private static final int[] NAMING = {BEQ, BLT, GO, LABEL};

    public static void main(String[] args) {
        new EdgesOfSourceTest().all();
    }

    private void all() {
        sentence("1: No source", this::newHasNoSource);
        sentence("1: an empty module", this::newHasAnEmptyModule);
        sentence("1: no sandbox loaded", this::newHasNoSandboxLoaded);
        sentence("2: Adds a line to the source: true", this::lineAdds);
        sentence("2: Refused (false) when op is not 0 .. 15", this::lineRefusesOps);
        sentence("2: a .. not 0 .. 7", this::lineRefusesAs);
        sentence("2: b not 0 .. 7", this::lineRefusesBs);
        sentence("2: i not -2^21 .. 2^21 - 1", this::lineRefusesIs);
        sentence("2: or 24 lines are there", this::lineRefusesTheTwentyFifth);
        sentence("3: Label n is set to the place behind the last line: true", this::markSetsThePlace);
        sentence("3: Refused (false) when n is not 0 .. 7", this::markRefusesNumbers);
        sentence("3: or it is set already", this::markRefusesASetLabel);
        sentence("4: There are no lines", this::clearTakesLines);
        sentence("4: no label is set", this::clearTakesLabels);
        sentence("4: and the module is empty", this::clearTakesTheModule);
        sentence("5: the module becomes that", this::rewriteReplacesTheModule);
        sentence("5: answers how many words it has", this::rewriteAnswersHowMany);
        sentence("5: -1 when k is not 0 .. 2", this::rewriteRefusesSandboxes);
        sentence("5: or the source can't be rewritten; the module stays as it was then", this::rewriteLeavesTheModule);
        sentence("SOURCE: At most 24 LINES", this::twentyFourLinesAreKept);
        sentence("SOURCE: LABELS 0 .. 7, each of which may be set to a place, the number of lines before it", this::labelsAtAllPlaces);
        sentence("SOURCE: no line uses a register from 5 on (ops 1, 13 and 15 a; ops 2 to 11 a and b)", this::registersFromFiveOn);
        sentence("SOURCE: each label that a line names is one of 0 .. 7", this::labelsOutsideTheRange);
        sentence("SOURCE: and set", this::labelsThatAreNotSet);
        sentence("SOURCE: each HOST has i from 0 to 6", this::hostCallsOutsideTheRange);
        sentence("SOURCE: the module has at most 31 words", this::wordsUpToThirtyOne);
        sentence("SOURCE: a LOAD or STORE of ra at rb + i is COPY, AND, OR, LOAD or STORE", this::accessesAtTheEdges);
        sentence("SOURCE: a JUMP to ra is AND, OR, JUMP", this::jumpsAtTheEdges);
        sentence("SOURCE: LABEL is SET of ra to E + the place in the module of the first word of the line at the label", this::labelWords);
        sentence("SOURCE: BEQ, BLT and GO go to that word", this::branchWords);
        sentence("SOURCE: the others stay as they are", this::otherWords);
        sentence("SOURCE: fields that their op does not use are 0", this::unusedFields);
        sentence("SOURCE: Behind the last line comes one word 0", this::theWordBehind);
        sentence("SOURCE: to which labels behind the last line go", this::labelsBehind);
        end();
    }

    private void newHasNoSource() {
        for (int k = 0; k < 3; k++) {
            Fenced x = new Fenced();
            same("rewrite(" + k + ")", x.rewrite(k), 1);
            sameText("its word", module(x), text(0));
            same("follow(" + k + ", 1)", x.follow(k, 1), 2);
        }
        Fenced y = new Fenced();
        for (int n = 0; n < 8; n++) {
            yes("mark(" + n + ")", y.mark(n));
        }
        for (int n = 0; n < 24; n++) {
            yes("line " + n, y.line(SET, 0, 0, n));
        }
    }

    private void newHasAnEmptyModule() {
        Fenced x = new Fenced();
        same("module(-1)", x.module(-1), 0);
        for (int p = 0; p < 31; p++) {
            same("module(" + p + ")", x.module(p), 0);
        }
        for (int k = 0; k < 3; k++) {
            same("verify(" + k + ")", x.verify(k), -1);
        }
        yes("word", x.word(77));
        same("the first word", x.module(0), 77);
    }

    private void newHasNoSandboxLoaded() {
        Fenced x = new Fenced();
        same("run(500)", x.run(500), 0);
        for (int k = 0; k < 3; k++) {
            same("state(" + k + ")", x.state(k), 0);
            same("pc(" + k + ")", x.pc(k), 0);
            no("feed(" + k + ", 5)", x.feed(k, 5));
            for (int r = 0; r < 8; r++) {
                same("register(" + k + ", " + r + ")", x.register(k, r), 0);
            }
            for (int j = -1; j < 8; j++) {
                same("output(" + k + ", " + j + ")", x.output(k, j), 0);
                same("call(" + k + ", " + j + ", 0)", x.call(k, j, 0), 0);
                same("trace(" + j + ", 0)", x.trace(j, 0), 0);
            }
        }
    }

    private void lineAdds() {
        Fenced x = new Fenced();
        for (int op = 0; op < 16; op++) {
            yes("line of op " + op, x.line(op, 7, 7, 7));
        }
        Fenced y = withLines(SET, 0, 0, 1, SET, 1, 0, 2, SET, 2, 0, 3);
        y.rewrite(0);
        sameText("lines in their order", module(y), text(w(SET, 0, 0, 1), w(SET, 1, 0, 2), w(SET, 2, 0, 3), 0));
    }

    /** The one line that is there stays the one line, whatever was refused. */
    private void refusesLine(int op, int a, int b, int i) {
        Fenced x = withLines(SET, 3, 0, 9);
        no("line(" + op + ", " + a + ", " + b + ", " + i + ")", x.line(op, a, b, i));
        same("rewrite after it", x.rewrite(0), 2);
        same("the line that was there", x.module(0), w(SET, 3, 0, 9));
    }

    private void lineRefusesOps() {
        for (int op : outside(15)) {
            refusesLine(op, 0, 0, 0);
        }
        yes("op 0", new Fenced().line(0, 0, 0, 0));
        yes("op 15", new Fenced().line(15, 0, 0, 0));
    }

    private void lineRefusesAs() {
        for (int a : outside(7)) {
            refusesLine(SET, a, 0, 0);
            refusesLine(TRAP, a, 0, 0);
            refusesLine(HOST, a, 0, 0);
        }
        yes("a 0", new Fenced().line(SET, 0, 0, 0));
        yes("a 7", new Fenced().line(SET, 7, 0, 0));
    }

    private void lineRefusesBs() {
        for (int b : outside(7)) {
            refusesLine(ADD, 0, b, 0);
            refusesLine(SET, 0, b, 0);
            refusesLine(TRAP, 0, b, 0);
        }
        yes("b 0", new Fenced().line(ADD, 0, 0, 0));
        yes("b 7", new Fenced().line(ADD, 0, 7, 0));
    }

    private void lineRefusesIs() {
        for (int i : new int[] {2097152, -2097153, Integer.MAX_VALUE, Integer.MIN_VALUE}) {
            refusesLine(SET, 0, 0, i);
            refusesLine(ADD, 0, 0, i);
        }
        for (int i : new int[] {2097151, -2097152, 0}) {
            Fenced x = new Fenced();
            yes("i " + i, x.line(SET, 0, 0, i));
            x.rewrite(0);
            same("i " + i + " in its word", x.module(0) >> 10, i);
        }
    }

    private void lineRefusesTheTwentyFifth() {
        Fenced x = new Fenced();
        for (int n = 0; n < 24; n++) {
            yes("line " + n, x.line(SET, 0, 0, 100 + n));
        }
        no("line 24", x.line(SET, 0, 0, 124));
        no("line 24 once more", x.line(SET, 0, 0, 125));
        same("rewrite", x.rewrite(0), 25);
        for (int n = 0; n < 24; n++) {
            same("line " + n + " stays", x.module(n), w(SET, 0, 0, 100 + n));
        }
        x.clear();
        yes("line after clear", x.line(SET, 0, 0, 1));
    }

    /** Asks by a GO in front where a label is: each SET makes one word. */
    private void markSetsThePlace() {
        for (int before = 0; before <= 23; before++) {
            Fenced x = withLines(GO, 0, 0, 5);
            for (int n = 0; n < 23; n++) {
                if (n == before) {
                    yes("mark(5)", x.mark(5));
                }
                lines(x, SET, 0, 0, n);
            }
            if (before == 23) {
                yes("mark(5) behind 24 lines", x.mark(5));
            }
            same("rewrite", x.rewrite(0), 25);
            same("GO over " + before + " lines", x.module(0), w(GO, 0, 0, before));
        }
        Fenced y = new Fenced();
        yes("mark(0) before all lines", y.mark(0));
        lines(y, GO, 0, 0, 0);
        y.rewrite(0);
        same("GO to itself", y.module(0), w(GO, 0, 0, -1));
    }

    private void markRefusesNumbers() {
        Fenced x = new Fenced();
        for (int n : outside(7)) {
            no("mark(" + n + ")", x.mark(n));
        }
        for (int n = 0; n < 8; n++) {
            yes("mark(" + n + ")", x.mark(n));
        }
    }

    private void markRefusesASetLabel() {
        for (int n = 0; n < 8; n++) {
            Fenced x = new Fenced();
            x.mark(n);
            no("mark(" + n + ") at the same place", x.mark(n));
            lines(x, GO, 0, 0, n, SET, 0, 0, 0);
            no("mark(" + n + ") at another place", x.mark(n));
            x.rewrite(0);
            same("label " + n + " stays where it was", x.module(0), w(GO, 0, 0, -1));
            yes("mark of another at that place", x.mark(n ^ 1));
        }
    }

    private void clearTakesLines() {
        Fenced x = new Fenced();
        for (int n = 0; n < 24; n++) {
            lines(x, SET, 0, 0, n);
        }
        x.clear();
        same("rewrite", x.rewrite(1), 1);
        same("follow", x.follow(1, 1), 2);
        for (int n = 0; n < 24; n++) {
            yes("line " + n, x.line(SET, 1, 0, n));
        }
        Fenced y = new Fenced();
        y.clear();
        same("clear of nothing", y.rewrite(0), 1);
        Fenced z = withLines(SET, 5, 0, 0);
        z.clear();
        same("what could not be rewritten is gone", z.rewrite(0), 1);
    }

    private void clearTakesLabels() {
        Fenced x = new Fenced();
        for (int n = 0; n < 8; n++) {
            x.mark(n);
        }
        x.clear();
        for (int n = 0; n < 8; n++) {
            Fenced y = new Fenced();
            y.mark(n);
            y.clear();
            lines(y, GO, 0, 0, n);
            same("rewrite with label " + n, y.rewrite(0), -1);
            same("follow with label " + n, y.follow(0, 1), -1);
            lines(x, SET, 0, 0, 0);
            yes("mark(" + n + ") after clear", x.mark(n));
        }
    }

    private void clearTakesTheModule() {
        Fenced x = new Fenced();
        for (int n = 0; n < 31; n++) {
            x.word(15);
        }
        x.clear();
        same("module(-1)", x.module(-1), 0);
        same("module(0)", x.module(0), 0);
        same("verify", x.verify(0), -1);
        yes("load of the empty module", x.load(0));
        for (int n = 0; n < 31; n++) {
            yes("word " + n, x.word(n));
        }
    }

    private void rewriteReplacesTheModule() {
        Fenced x = new Fenced();
        for (int n = 0; n < 31; n++) {
            x.word(15);
        }
        same("rewrite of no lines over 31 words", x.rewrite(0), 1);
        sameText("the module", module(x), text(0));
        same("module(1) is gone", x.module(1), 0);
        lines(x, SET, 1, 0, 8);
        same("rewrite over a rewritten one", x.rewrite(2), 2);
        sameText("the module", module(x), text(w(SET, 1, 0, 8), 0));
    }

    private void rewriteAnswersHowMany() {
        int[] words = {1, 1, 1, 1, 1, 1, 1, 1, 4, 4, 1, 1, 1, 3, 1, 1};
        for (int op = 0; op < 16; op++) {
            Fenced x = withLines(op, 0, 0, 0);
            x.mark(0);
            same("rewrite of op " + op, x.rewrite(0), words[op] + 1);
            same("module(-1)", x.module(-1), words[op] + 1);
        }
        same("rewrite of no lines", new Fenced().rewrite(2), 1);
    }

    private void rewriteRefusesSandboxes() {
        for (int k : outside(2)) {
            Fenced x = withWords(5, 6);
            same("rewrite(" + k + ")", x.rewrite(k), -1);
            sameText("the module stays", module(x), text(5, 6));
        }
        for (int k = 0; k < 3; k++) {
            same("rewrite(" + k + ")", new Fenced().rewrite(k), 1);
        }
    }

    private void staysAfterRefusal(String why, Fenced x) {
        words(x, 4, 15, 6);
        same(why, x.rewrite(1), -1);
        sameText(why + ": the module stays", module(x), text(4, 15, 6));
    }

    private void rewriteLeavesTheModule() {
        staysAfterRefusal("a register from 5 on", withLines(SET, 0, 0, 0, SET, 5, 0, 0));
        staysAfterRefusal("a label that is not set", withLines(SET, 0, 0, 0, GO, 0, 0, 0));
        staysAfterRefusal("a host call of number 7", withLines(SET, 0, 0, 0, HOST, 0, 0, 7));
        Fenced tooLong = new Fenced();
        for (int n = 0; n < 8; n++) {
            lines(tooLong, LOAD, 0, 0, 0);
        }
        staysAfterRefusal("too many words", tooLong);
        Fenced again = withLines(SET, 1, 0, 1);
        again.rewrite(0);
        lines(again, SET, 5, 0, 0);
        same("rewrite of a source that went wrong", again.rewrite(0), -1);
        sameText("the module of before", module(again), text(w(SET, 1, 0, 1), 0));
    }

    private void twentyFourLinesAreKept() {
        Fenced x = new Fenced();
        for (int n = 0; n < 23; n++) {
            lines(x, COPY, 1, 1, 1);
        }
        lines(x, HOST, 0, 0, OUT);
        no("line 24", x.line(HOST, 0, 0, EXIT));
        same("follow of 24 lines", x.follow(0, 300), 2);
        same("how many calls", x.trace(-1, 0), 1);
        same("23 lines counted", x.trace(0, 1), 23);
    }

    private void labelsAtAllPlaces() {
        Fenced x = new Fenced();
        for (int n = 0; n < 8; n++) {
            yes("mark", x.mark(n));
            lines(x, LABEL, 0, 0, n);
        }
        same("rewrite", x.rewrite(1), 9);
        for (int n = 0; n < 8; n++) {
            same("label " + n, x.module(n), w(SET, 0, 0, 96 + n));
        }
        Fenced y = withLines(LABEL, 0, 0, 7, LABEL, 0, 0, 0);
        y.mark(0);
        y.mark(7);
        same("two labels at one place", y.rewrite(0), 3);
        same("label 7", y.module(0), w(SET, 0, 0, 66));
        same("label 0", y.module(1), w(SET, 0, 0, 66));
    }

    private void registersFromFiveOn() {
        for (int op = 0; op < 16; op++) {
            boolean usesB = op >= 2 && op <= 11;
            boolean usesA = usesB || op == 1 || op == 13 || op == 15;
            for (int r = 4; r < 8; r++) {
                Fenced x = withLines(SET, 0, 0, 0, op, r, 0, 0);
                x.mark(0);
                same("op " + op + ", a " + r + ": can be rewritten", x.rewrite(0) != -1 ? 1 : 0, usesA && r > 4 ? 0 : 1);
                Fenced y = withLines(SET, 0, 0, 0, op, 0, r, 0);
                y.mark(0);
                same("op " + op + ", b " + r + ": can be rewritten", y.rewrite(0) != -1 ? 1 : 0, usesB && r > 4 ? 0 : 1);
            }
        }
    }

    private static Fenced withAllLabels(int... fields) {
        Fenced x = new Fenced();
        for (int n = 0; n < 8; n++) {
            x.mark(n);
        }
        lines(x, fields);
        return x;
    }

    private void labelsOutsideTheRange() {
        for (int op : NAMING) {
            for (int i : new int[] {-1, 8, 9, 16, 256, MOST_I, LEAST_I}) {
                Fenced x = withAllLabels(op, 0, 0, i);
                same("op " + op + " to label " + i, x.rewrite(0), -1);
                same("follow of it", x.follow(0, 1), -1);
            }
            for (int i = 0; i < 8; i++) {
                same("op " + op + " to label " + i, withAllLabels(op, 0, 0, i).rewrite(0), 2);
            }
        }
        for (int op = 0; op < 10; op++) {
            same("op " + op + " names no label", withLines(op, 0, 0, 8).rewrite(0) == -1 ? 1 : 0, 0);
        }
        same("op 13 names no label", withLines(JUMP, 0, 0, 8).rewrite(0), 4);
    }

    private void labelsThatAreNotSet() {
        for (int op : NAMING) {
            for (int i = 0; i < 8; i++) {
                Fenced x = withLines(op, 0, 0, i);
                for (int n = 0; n < 8; n++) {
                    if (n != i) {
                        x.mark(n);
                    }
                }
                same("op " + op + " to label " + i + ", all others set", x.rewrite(0), -1);
                x.mark(i);
                same("op " + op + " to label " + i + ", set behind the line", x.rewrite(0), 2);
            }
        }
        same("labels that no line names need not be set", withLines(SET, 0, 0, 3, COPY, 0, 0, 7).rewrite(0), 3);
    }

    private void hostCallsOutsideTheRange() {
        for (int i : new int[] {-1, 7, 8, 15, 16, MOST_I, LEAST_I}) {
            Fenced x = withLines(SET, 0, 0, 0, HOST, 0, 0, i);
            same("HOST " + i, x.rewrite(0), -1);
            same("follow of it", x.follow(0, 1), -1);
        }
        for (int i = 0; i <= 6; i++) {
            same("HOST " + i, withLines(SET, 0, 0, 0, HOST, 0, 0, i).rewrite(0), 3);
        }
    }

    private void longest(String what, int op, int many, int words) {
        Fenced x = new Fenced();
        for (int n = 0; n < many; n++) {
            lines(x, op, 0, 0, 0);
        }
        for (int n = many * words; n < 30; n++) {
            lines(x, SET, 0, 0, 0);
        }
        x.mark(0);
        same(what + ": 31 words", x.rewrite(2), 31);
        same(what + ": it can be followed", x.follow(2, 0), 0);
        lines(x, TRAP, 0, 0, 0);
        same(what + ": 32 words", x.rewrite(2), -1);
        same(what + ": it can't be followed", x.follow(2, 0), -1);
        same(what + ": the 31 words stay", x.module(-1), 31);
    }

    private void wordsUpToThirtyOne() {
        longest("LOAD", LOAD, 7, 4);
        longest("STORE", STORE, 6, 4);
        longest("JUMP", JUMP, 10, 3);
        longest("JUMP and others", JUMP, 9, 3);
        Fenced eight = new Fenced();
        for (int n = 0; n < 8; n++) {
            lines(eight, STORE, 0, 0, 0);
        }
        same("33 words", eight.rewrite(0), -1);
        Fenced most = new Fenced();
        for (int n = 0; n < 24; n++) {
            lines(most, LOAD, 0, 0, 0);
        }
        same("97 words", most.rewrite(0), -1);
    }

    private void accessesAtTheEdges() {
        for (int k = 0; k < 3; k++) {
            for (int i : new int[] {0, 15, 16, -1, MOST_I, LEAST_I}) {
                for (int op = LOAD; op <= STORE; op++) {
                    Fenced x = withLines(op, 4, 0, i, op, 0, 4, i);
                    same("rewrite", x.rewrite(k), 9);
                    int and = w(AND, 6, 5, 15);
                    int or = w(OR, 6, 6, 16 * k);
                    sameText("op " + op + " with i " + i, module(x), text(
                        w(COPY, 5, 0, i), and, or, w(op, 4, 6, 0), w(COPY, 5, 4, i), and, or, w(op, 0, 6, 0), 0));
                    same("it is safe", x.verify(k), -1);
                }
            }
        }
    }

    private void jumpsAtTheEdges() {
        for (int k = 0; k < 3; k++) {
            for (int a = 0; a < 5; a++) {
                Fenced x = withLines(JUMP, a, 7, MOST_I);
                same("rewrite", x.rewrite(k), 4);
                sameText("JUMP to r" + a, module(x), text(w(AND, 7, a, 31), w(OR, 7, 7, 64 + 32 * k), w(JUMP, 7, 0, 0), 0));
                same("it is safe", x.verify(k), -1);
            }
        }
    }

    /** Lines of 4, 3 and 1 words, with a label before each and one behind all. */
    private static Fenced withLongLines(int... last) {
        Fenced x = new Fenced();
        x.mark(0);
        lines(x, LOAD, 0, 0, 0);
        x.mark(1);
        lines(x, JUMP, 0, 0, 0);
        x.mark(2);
        lines(x, STORE, 0, 0, 0);
        x.mark(3);
        lines(x, last);
        x.mark(4);
        return x;
    }

    private void labelWords() {
        int[] places = {0, 4, 7, 11, 12};
        for (int k = 0; k < 3; k++) {
            for (int n = 0; n < 5; n++) {
                Fenced x = withLongLines(LABEL, 4, 7, n);
                same("rewrite", x.rewrite(k), 13);
                same("LABEL " + n, x.module(11), w(SET, 4, 0, 64 + 32 * k + places[n]));
            }
        }
    }

    private void branchWords() {
        int[] places = {0, 4, 7, 11, 12};
        for (int op = BEQ; op <= GO; op++) {
            for (int n = 0; n < 5; n++) {
                Fenced x = withLongLines(op, 3, 4, n);
                int a = op == GO ? 0 : 3;
                int b = op == GO ? 0 : 4;
                same("rewrite", x.rewrite(1), 13);
                same("op " + op + " to label " + n, x.module(11), w(op, a, b, places[n] - 12));
                same("it is safe", x.verify(1), -1);
            }
            Fenced forward = withLines(op, 0, 0, 0, LOAD, 0, 0, 0, STORE, 0, 0, 0, JUMP, 0, 0, 0);
            forward.mark(0);
            forward.rewrite(0);
            same("op " + op + " forward over 11 words", forward.module(0), w(op, 0, 0, 11));
        }
    }

    private void otherWords() {
        for (int op : new int[] {COPY, AND, OR}) {
            for (int i : new int[] {MOST_I, LEAST_I, 0, -1}) {
                Fenced x = withLines(op, 4, 0, i, op, 0, 4, i);
                x.rewrite(2);
                sameText("op " + op, module(x), text(w(op, 4, 0, i), w(op, 0, 4, i), 0));
            }
        }
        for (int i : new int[] {MOST_I, LEAST_I}) {
            Fenced x = withLines(SET, 4, 0, i);
            x.rewrite(2);
            sameText("SET", module(x), text(w(SET, 4, 0, i), 0));
        }
        for (int op : new int[] {ADD, SUB, XOR}) {
            Fenced x = withLines(op, 4, 0, 0, op, 0, 4, 0);
            x.rewrite(2);
            sameText("op " + op, module(x), text(w(op, 4, 0, 0), w(op, 0, 4, 0), 0));
        }
        for (int i = 0; i < 7; i++) {
            Fenced x = withLines(HOST, 0, 0, i);
            x.rewrite(2);
            sameText("HOST", module(x), text(w(HOST, 0, 0, i), 0));
        }
    }

    private void unusedFields() {
        int[][] cases = {{TRAP, 7, 7, MOST_I, 0}, {TRAP, 1, 2, LEAST_I, 0}, {SET, 1, 7, -4, w(SET, 1, 0, -4)}, {ADD, 1, 2, -1, w(ADD, 1, 2, 0)},
            {SUB, 1, 2, MOST_I, w(SUB, 1, 2, 0)}, {XOR, 1, 2, LEAST_I, w(XOR, 1, 2, 0)}, {HOST, 7, 7, 3, w(HOST, 0, 0, 3)},
            {GO, 7, 7, 0, w(GO, 0, 0, 0)}, {LABEL, 2, 7, 0, w(SET, 2, 0, 65)}};
        for (int[] f : cases) {
            Fenced x = withLines(f[0], f[1], f[2], f[3]);
            x.mark(0);
            same("rewrite", x.rewrite(0), 2);
            same("op " + f[0], x.module(0), f[4]);
        }
    }

    private void theWordBehind() {
        Fenced x = withLines(SET, 1, 0, 1, HOST, 0, 0, OUT);
        same("rewrite", x.rewrite(0), 3);
        same("the last word", x.module(2), 0);
        x.load(0);
        same("run", x.run(500), 3);
        same("it traps there", x.state(0), 3);
        same("pc", x.pc(0), 66);
        same("behind a line that is TRAP too", withLines(TRAP, 0, 0, 0).rewrite(0), 2);
    }

    private void labelsBehind() {
        for (int k = 0; k < 3; k++) {
            Fenced x = withLines(LABEL, 1, 0, 3, JUMP, 1, 0, 0, SET, 2, 0, 1);
            x.mark(3);
            same("rewrite", x.rewrite(k), 6);
            same("LABEL", x.module(0), w(SET, 1, 0, 64 + 32 * k + 5));
            x.load(k);
            same("run", x.run(500), 5);
            same("it traps there", x.state(k), 3);
            same("pc", x.pc(k), 64 + 32 * k + 5);
            same("nothing between was done", x.register(k, 2), 0);
        }
    }
}
