/** Promises 1 to 5: a new object, line, mark, clear, rewrite. */
public final class SourceTest {
    private static final Check check = new Check();

    public static void main(String[] args) {
        newObject();
        lineTakesItsRanges();
        lineRefusesTheTwentyFifth();
        markSetsEachLabelOnce();
        clearForgetsSourceAndModule();
        clearLeavesTheRest();
        rewriteOfPlainLines();
        rewriteOfUnusedFields();
        rewriteOfMemoryAndJumps();
        rewriteOfLabels();
        rewriteOfLabelsAtTheEdges();
        rewriteRefusesRegisters();
        rewriteRefusesNames();
        rewriteCountsWords();
        rewriteKeepsTheModuleWhenRefused();
        check.end();
    }

    private static void newObject() {
        Fenced x = new Fenced();
        check.same("module(-1) of a new object", x.module(-1), 0);
        for (int k = 0; k < 3; k++) {
            check.same("state of a new object", x.state(k), 0);
            check.same("pc of a new object", x.pc(k), 0);
            check.same("r6 of a new object", x.register(k, 6), 0);
            check.same("r7 of a new object", x.register(k, 7), 0);
            check.same("outputs of a new object", x.output(k, -1), 0);
            check.same("calls of a new object", x.call(k, -1, 0), 0);
            check.no("feed of a new object", x.feed(k, 1));
            check.same("verify of a new object", x.verify(k), -1);
        }
        for (int address = 0; address < 256; address++) {
            check.same("peek of a new object", x.peek(address), 0);
        }
        check.same("trace(-1) of a new object", x.trace(-1, 0), 0);
        check.same("trace(0) of a new object", x.trace(0, 0), 0);
        check.same("run of a new object", x.run(500), 0);
        check.same("rewrite of no source", x.rewrite(0), 1);
        check.same("follow of no source", x.follow(0, 1), 2);
    }

    private static void lineTakesItsRanges() {
        Fenced x = new Fenced();
        int[][] good = {{0, 0, 0, 0}, {15, 7, 7, Check.MOST_I}, {15, 7, 7, Check.LEAST_I}, {1, 0, 7, 5}};
        for (int[] f : good) {
            check.yes("line within its ranges", x.line(f[0], f[1], f[2], f[3]));
        }
        int[][] bad = {{-1, 0, 0, 0}, {16, 0, 0, 0}, {0, -1, 0, 0}, {0, 8, 0, 0}, {0, 0, -1, 0}, {0, 0, 8, 0},
            {0, 0, 0, Check.MOST_I + 1}, {0, 0, 0, Check.LEAST_I - 1},
            {Integer.MAX_VALUE, 0, 0, 0}, {0, Integer.MIN_VALUE, 0, 0}, {0, 0, 0, Integer.MIN_VALUE}};
        Fenced y = new Fenced();
        for (int[] f : bad) {
            check.no("line outside its ranges", y.line(f[0], f[1], f[2], f[3]));
        }
        check.same("rewrite after refused lines", y.rewrite(0), 1);
    }

    private static void lineRefusesTheTwentyFifth() {
        Fenced x = new Fenced();
        for (int n = 0; n < 24; n++) {
            check.yes("line " + n, x.line(Check.SET, 0, 0, n));
        }
        check.no("line 24", x.line(Check.SET, 0, 0, 24));
        check.same("rewrite of 24 lines", x.rewrite(0), 25);
        check.same("last line", x.module(23), Check.w(Check.SET, 0, 0, 23));
        x.clear();
        check.yes("line after clear", x.line(Check.SET, 0, 0, 0));
    }

    private static void markSetsEachLabelOnce() {
        Fenced x = new Fenced();
        for (int n = 0; n < 8; n++) {
            check.yes("mark", x.mark(n));
            check.no("mark again", x.mark(n));
        }
        check.no("mark(-1)", x.mark(-1));
        check.no("mark(8)", x.mark(8));
        check.no("mark of the least int", x.mark(Integer.MIN_VALUE));
        x.clear();
        check.yes("mark after clear", x.mark(3));
        Check.lines(x, Check.SET, 0, 0, 1);
        check.no("mark again behind a line", x.mark(3));
        Check.lines(x, Check.GO, 0, 0, 3);
        x.rewrite(0);
        check.same("a refused mark does not move the label", x.module(1), Check.w(Check.GO, 0, 0, -2));
    }

    private static void clearForgetsSourceAndModule() {
        Fenced x = Check.withLines(Check.SET, 1, 0, 5, Check.GO, 0, 0, 2);
        x.mark(2);
        check.same("rewrite before clear", x.rewrite(1), 3);
        x.clear();
        check.same("module(-1) after clear", x.module(-1), 0);
        check.same("module(0) after clear", x.module(0), 0);
        check.same("rewrite after clear", x.rewrite(1), 1);
        Check.lines(x, Check.GO, 0, 0, 2);
        check.same("the label is not set after clear", x.rewrite(1), -1);
    }

    private static void clearLeavesTheRest() {
        Fenced x = Check.loaded(1, Check.SET, 1, 0, 5, Check.HOST, 0, 0, Check.OUT, Check.HOST, 0, 0, Check.EXIT);
        x.run(2);
        x.follow(1, 10);
        String module = Check.module(x);
        String before = Check.picture(x);
        x.clear();
        String after = Check.picture(x);
        check.sameText("what clear leaves", after.replace("module ", "module " + module), before);
    }

    private static void rewriteOfPlainLines() {
        Fenced x = Check.withLines(
            Check.TRAP, 0, 0, 0, Check.SET, 4, 0, -3, Check.COPY, 1, 2, Check.MOST_I, Check.ADD, 3, 4, 0,
            Check.SUB, 0, 1, 0, Check.XOR, 2, 2, 0, Check.AND, 1, 0, Check.LEAST_I, Check.OR, 4, 3, -1, Check.HOST, 0, 0, 6);
        for (int k = 0; k < 3; k++) {
            check.same("rewrite of plain lines", x.rewrite(k), 10);
            check.sameText("plain words", Check.module(x), Check.text(
                0, Check.w(Check.SET, 4, 0, -3), Check.w(Check.COPY, 1, 2, Check.MOST_I), Check.w(Check.ADD, 3, 4, 0),
                Check.w(Check.SUB, 0, 1, 0), Check.w(Check.XOR, 2, 2, 0), Check.w(Check.AND, 1, 0, Check.LEAST_I),
                Check.w(Check.OR, 4, 3, -1), Check.w(Check.HOST, 0, 0, 6), 0));
        }
    }

    private static void rewriteOfUnusedFields() {
        Fenced x = Check.withLines(
            Check.TRAP, 7, 7, 99, Check.SET, 1, 7, 4, Check.ADD, 1, 2, 77, Check.SUB, 1, 2, -1, Check.XOR, 1, 2, 5,
            Check.GO, 7, 7, 0, Check.JUMP, 3, 7, 88, Check.HOST, 7, 6, 2, Check.LABEL, 2, 7, 0);
        x.mark(0);
        check.same("rewrite with unused fields", x.rewrite(0), 12);
        check.sameText("unused fields are 0", Check.module(x), Check.text(
            0, Check.w(Check.SET, 1, 0, 4), Check.w(Check.ADD, 1, 2, 0), Check.w(Check.SUB, 1, 2, 0), Check.w(Check.XOR, 1, 2, 0),
            Check.w(Check.GO, 0, 0, 5), Check.w(Check.AND, 7, 3, 31), Check.w(Check.OR, 7, 7, 64), Check.w(Check.JUMP, 7, 0, 0),
            Check.w(Check.HOST, 0, 0, 2), Check.w(Check.SET, 2, 0, 75), 0));
    }

    private static void rewriteOfMemoryAndJumps() {
        Fenced x = Check.withLines(Check.LOAD, 4, 3, -7, Check.STORE, 2, 1, 9, Check.JUMP, 4, 0, 0);
        for (int k = 0; k < 3; k++) {
            check.same("rewrite of accesses", x.rewrite(k), 12);
            check.sameText("words of accesses", Check.module(x), Check.text(
                Check.w(Check.COPY, 5, 3, -7), Check.w(Check.AND, 6, 5, 15), Check.w(Check.OR, 6, 6, 16 * k), Check.w(Check.LOAD, 4, 6, 0),
                Check.w(Check.COPY, 5, 1, 9), Check.w(Check.AND, 6, 5, 15), Check.w(Check.OR, 6, 6, 16 * k), Check.w(Check.STORE, 2, 6, 0),
                Check.w(Check.AND, 7, 4, 31), Check.w(Check.OR, 7, 7, 64 + 32 * k), Check.w(Check.JUMP, 7, 0, 0), 0));
            check.same("it is safe", x.verify(k), -1);
        }
    }

    private static void rewriteOfLabels() {
        Fenced x = new Fenced();
        Check.lines(x, Check.LOAD, 0, 0, 0);
        x.mark(0);
        Check.lines(x, Check.BEQ, 1, 2, 7, Check.BLT, 3, 4, 0, Check.JUMP, 1, 0, 0, Check.GO, 0, 0, 0);
        x.mark(7);
        Check.lines(x, Check.LABEL, 2, 0, 7, Check.LABEL, 3, 0, 0);
        for (int k = 0; k < 3; k++) {
            int e = 64 + 32 * k;
            check.same("rewrite with labels", x.rewrite(k), 13);
            check.same("BEQ forward", x.module(4), Check.w(Check.BEQ, 1, 2, 5));
            check.same("BLT backward", x.module(5), Check.w(Check.BLT, 3, 4, -2));
            check.same("GO backward", x.module(9), Check.w(Check.GO, 0, 0, -6));
            check.same("LABEL of itself", x.module(10), Check.w(Check.SET, 2, 0, e + 10));
            check.same("LABEL backward", x.module(11), Check.w(Check.SET, 3, 0, e + 4));
        }
    }

    private static void rewriteOfLabelsAtTheEdges() {
        Fenced x = new Fenced();
        x.mark(0);
        x.mark(1);
        Check.lines(x, Check.GO, 0, 0, 2, Check.LABEL, 0, 0, 2, Check.GO, 0, 0, 0, Check.LABEL, 1, 0, 1);
        x.mark(2);
        check.same("rewrite with labels at the edges", x.rewrite(1), 5);
        check.sameText("labels at the edges", Check.module(x), Check.text(
            Check.w(Check.GO, 0, 0, 3), Check.w(Check.SET, 0, 0, 100), Check.w(Check.GO, 0, 0, -3), Check.w(Check.SET, 1, 0, 96), 0));
    }

    private static void rewriteRefusesRegisters() {
        for (int op = 0; op < 16; op++) {
            boolean usesB = op >= 2 && op <= 11;
            boolean usesA = usesB || op == 1 || op == 13 || op == 15;
            for (int r = 0; r < 8; r++) {
                Fenced x = Check.withLines(op, r, 0, 0);
                x.mark(0);
                check.same("rewrite with op " + op + " and a " + r, x.rewrite(0) == -1 ? 1 : 0, usesA && r > 4 ? 1 : 0);
                check.same("follow with op " + op + " and a " + r, x.follow(0, 0), usesA && r > 4 ? -1 : 0);
                Fenced y = Check.withLines(op, 0, r, 0);
                y.mark(0);
                check.same("rewrite with op " + op + " and b " + r, y.rewrite(0) == -1 ? 1 : 0, usesB && r > 4 ? 1 : 0);
                check.same("follow with op " + op + " and b " + r, y.follow(0, 0), usesB && r > 4 ? -1 : 0);
            }
        }
    }

    private static void rewriteRefusesNames() {
        int[] wrong = {-1, 1, 8, 1024, Check.MOST_I, Check.LEAST_I};
        for (int op : new int[] {Check.BEQ, Check.BLT, Check.GO, Check.LABEL}) {
            for (int i : wrong) {
                Fenced x = Check.withLines(op, 0, 0, i);
                x.mark(0);
                x.mark(7);
                check.same("rewrite with op " + op + " to label " + i, x.rewrite(0), -1);
                check.same("follow with op " + op + " to label " + i, x.follow(0, 1), -1);
            }
            Fenced y = Check.withLines(op, 0, 0, 7);
            y.mark(7);
            check.same("rewrite to label 7", y.rewrite(0), 2);
        }
        for (int i : new int[] {-1, 7, Check.MOST_I, Check.LEAST_I}) {
            check.same("rewrite with host call " + i, Check.withLines(Check.HOST, 0, 0, i).rewrite(2), -1);
        }
        for (int i = 0; i < 7; i++) {
            check.same("rewrite with host call " + i, Check.withLines(Check.HOST, 0, 0, i).rewrite(2), 2);
        }
        for (int k : new int[] {-1, 3, Integer.MAX_VALUE, Integer.MIN_VALUE}) {
            check.same("rewrite(" + k + ")", new Fenced().rewrite(k), -1);
        }
        check.same("a label that no line names need not be set", Check.withLines(Check.SET, 0, 0, 5).rewrite(0), 2);
    }

    private static void rewriteCountsWords() {
        Fenced x = new Fenced();
        for (int n = 0; n < 7; n++) {
            Check.lines(x, Check.STORE, 0, 0, n);
        }
        check.same("rewrite of 28 words", x.rewrite(0), 29);
        Check.lines(x, Check.SET, 0, 0, 0, Check.SET, 0, 0, 0);
        check.same("rewrite of 30 words", x.rewrite(0), 31);
        check.same("the last of 31 words", x.module(30), 0);
        Check.lines(x, Check.SET, 0, 0, 0);
        check.same("rewrite of 31 words", x.rewrite(0), -1);
        check.same("follow of 31 words", x.follow(0, 5), -1);
        Fenced y = new Fenced();
        for (int n = 0; n < 10; n++) {
            Check.lines(y, Check.JUMP, 0, 0, 0);
        }
        check.same("rewrite of ten jumps", y.rewrite(0), 31);
        Check.lines(y, Check.SET, 0, 0, 0);
        check.same("rewrite of ten jumps and one", y.rewrite(0), -1);
    }

    private static void rewriteKeepsTheModuleWhenRefused() {
        Fenced x = Check.withWords(1, 2, 3);
        check.same("rewrite(3)", x.rewrite(3), -1);
        check.sameText("the module after rewrite(3)", Check.module(x), Check.text(1, 2, 3));
        Check.lines(x, Check.SET, 0, 0, 1, Check.SET, 5, 0, 0);
        check.same("rewrite of what can't be", x.rewrite(0), -1);
        check.sameText("the module after a refusal", Check.module(x), Check.text(1, 2, 3));
        x.clear();
        Check.words(x, 1, 2, 3, 4, 5);
        check.same("rewrite instead of words", x.rewrite(0), 1);
        check.sameText("the module is replaced", Check.module(x), Check.text(0));
        check.yes("a word behind a rewritten module", x.word(9));
        check.sameText("it is added", Check.module(x), Check.text(0, 9));
        check.same("the source stays", x.rewrite(0), 1);
    }
}
