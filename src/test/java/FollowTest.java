/** Promises 18 and 19: follow and trace. */
public final class FollowTest {
    private static final Check check = new Check();

    public static void main(String[] args) {
        endsBehindTheLastLine();
        endsWithATrap();
        endsWithExitInItsStep();
        labelsMayBeMoved();
        labelsMayNotBeTaken();
        labelsMayBeOverwritten();
        labelsAsArguments();
        labelsThatPrintWouldPutOut();
        jumps();
        addresses();
        labelsBeforeAddresses();
        computesAsTheWordsDo();
        beginsAnewEachTime();
        hostAnswers();
        takesAllInputsAgain();
        leavesTheSandboxesAlone();
        refuses();
        traceOfTheLatest();
        check.end();
    }

    /** Ends with the reason in the step behind the given number of lines, and in no step before. */
    private static void ends(String what, Fenced x, int lines, int reason) {
        for (int n = 0; n <= lines; n++) {
            check.same(what + ", " + n + " steps", x.follow(1, n), 0);
        }
        check.same(what + ", " + (lines + 1) + " steps", x.follow(1, lines + 1), reason);
        check.same(what + ", 300 steps", x.follow(1, 300), reason);
    }

    private static void endsBehindTheLastLine() {
        ends("no lines", new Fenced(), 0, 2);
        ends("one line", Check.withLines(Check.SET, 1, 0, 5), 1, 2);
        Fenced x = Check.withLines(Check.GO, 0, 0, 3, Check.TRAP, 0, 0, 0);
        x.mark(3);
        ends("a label behind the last line", x, 1, 2);
        Fenced y = new Fenced();
        y.mark(0);
        Check.lines(y, Check.GO, 0, 0, 0);
        check.same("an endless round", y.follow(0, 300), 0);
    }

    private static void endsWithATrap() {
        ends("a trap", Check.withLines(Check.TRAP, 3, 3, 3, Check.HOST, 0, 0, Check.EXIT), 0, 2);
        ends("a trap later", Check.withLines(Check.SET, 1, 0, 0, Check.HOST, 0, 0, Check.OUT, Check.TRAP, 0, 0, 0), 2, 2);
    }

    private static void endsWithExitInItsStep() {
        Fenced x = Check.withLines(Check.SET, 1, 0, 5, Check.HOST, 0, 0, Check.EXIT, Check.HOST, 0, 0, Check.OUT);
        check.same("one step", x.follow(2, 1), 0);
        check.same("nothing is noted", x.trace(-1, 0), 0);
        check.same("two steps", x.follow(2, 2), 1);
        check.same("EXIT is noted", x.trace(-1, 0), 1);
        check.same("300 steps", x.follow(2, 300), 1);
        check.same("once", x.trace(-1, 0), 1);
        check.same("its number", x.trace(0, 0), 0);
        check.same("no argument", x.trace(0, 1), 0);
    }

    private static void labelsMayBeMoved() {
        Fenced x = Check.withLines(Check.LABEL, 0, 0, 5, Check.COPY, 1, 0, 0, Check.STORE, 1, 4, 15,
            Check.LOAD, 2, 4, 15, Check.COPY, 2, 2, 0, Check.JUMP, 2, 0, 0, Check.TRAP, 0, 0, 0);
        x.mark(5);
        Check.lines(x, Check.HOST, 0, 0, Check.EXIT);
        check.same("a label that was moved", x.follow(0, 300), 1);
        ends("a label that was moved", x, 6, 1);
    }

    private static void labelsMayNotBeTaken() {
        int[][] taking = {{Check.COPY, 1, 0, 1}, {Check.COPY, 1, 0, -1}, {Check.COPY, 0, 0, 1},
            {Check.ADD, 0, 1, 0}, {Check.ADD, 1, 0, 0}, {Check.ADD, 0, 0, 0},
            {Check.SUB, 0, 1, 0}, {Check.SUB, 1, 0, 0}, {Check.SUB, 0, 0, 0},
            {Check.XOR, 0, 1, 0}, {Check.XOR, 1, 0, 0}, {Check.XOR, 0, 0, 0},
            {Check.AND, 1, 0, 31}, {Check.AND, 1, 0, 0}, {Check.AND, 0, 0, -1},
            {Check.OR, 1, 0, 0}, {Check.OR, 0, 0, 0},
            {Check.LOAD, 1, 0, 0}, {Check.LOAD, 0, 0, 0}, {Check.STORE, 1, 0, 0}, {Check.STORE, 0, 0, 0},
            {Check.BEQ, 0, 1, 0}, {Check.BEQ, 1, 0, 0}, {Check.BEQ, 0, 0, 0},
            {Check.BLT, 0, 1, 0}, {Check.BLT, 1, 0, 0}, {Check.BLT, 0, 0, 0}};
        for (int[] f : taking) {
            Fenced x = new Fenced();
            x.mark(0);
            Check.lines(x, Check.LABEL, 0, 0, 0, f[0], f[1], f[2], f[3]);
            ends("op " + f[0] + " of r" + f[1] + ", r" + f[2] + ", " + f[3], x, 1, 3);
        }
    }

    private static void labelsMayBeOverwritten() {
        int[][] overwriting = {{Check.SET, 0, 0, 1}, {Check.SET, 0, 7, 1}, {Check.COPY, 0, 1, 5}, {Check.COPY, 0, 1, 0}, {Check.AND, 0, 1, 3},
            {Check.OR, 0, 1, 3}, {Check.LOAD, 0, 1, 3}};
        for (int[] f : overwriting) {
            Fenced x = new Fenced();
            x.mark(0);
            Check.lines(x, Check.LABEL, 0, 0, 0, f[0], f[1], f[2], f[3], Check.ADD, 0, 0, 0);
            ends("op " + f[0] + " over a label", x, 3, 2);
        }
        Fenced again = new Fenced();
        again.mark(0);
        Check.lines(again, Check.LABEL, 0, 0, 0, Check.LABEL, 0, 0, 1, Check.JUMP, 0, 0, 0, Check.TRAP, 0, 0, 0);
        again.mark(1);
        Check.lines(again, Check.HOST, 0, 0, Check.EXIT);
        check.same("LABEL over a label", again.follow(0, 4), 1);
        Fenced stored = new Fenced();
        stored.mark(0);
        Check.lines(stored, Check.LABEL, 0, 0, 0, Check.STORE, 0, 1, 3, Check.STORE, 1, 1, 3, Check.LOAD, 2, 1, 3, Check.ADD, 2, 2, 0);
        ends("STORE over a label", stored, 5, 2);
        Fenced jumped = new Fenced();
        jumped.mark(0);
        Check.lines(jumped, Check.LABEL, 0, 0, 1, Check.SET, 0, 0, 1, Check.JUMP, 0, 0, 0);
        jumped.mark(1);
        ends("a label that was overwritten is none", jumped, 2, 4);
    }

    private static Fenced withLabelIn(int register, int number) {
        Fenced x = new Fenced();
        x.mark(0);
        Check.lines(x, Check.LABEL, register, 0, 0, Check.HOST, 0, 0, number, Check.HOST, 0, 0, Check.EXIT);
        return x;
    }

    private static void labelsAsArguments() {
        int[] takenFirst = {1, 3, 1, 3, 3, 3, 1};
        int[] takenSecond = {1, 1, 1, 1, 3, 3, 1};
        for (int number = 0; number < 7; number++) {
            Fenced first = withLabelIn(1, number);
            check.same("a label in r1, call " + number, first.follow(0, 300), takenFirst[number]);
            check.same("how many are noted", first.trace(-1, 0), takenFirst[number] == 3 ? 0 : number == 0 ? 1 : 2);
            check.same("one step", first.follow(0, 1), 0);
            check.same("two steps", first.follow(0, 2), number == 0 ? 1 : takenFirst[number] == 3 ? 3 : 0);
            Fenced second = withLabelIn(2, number);
            check.same("a label in r2, call " + number, second.follow(0, 300), takenSecond[number]);
            check.same("how many are noted", second.trace(-1, 0), takenSecond[number] == 3 ? 0 : number == 0 ? 1 : 2);
            check.same("an argument that is none", second.trace(0, 2), 0);
        }
        Fenced exit = withLabelIn(1, Check.EXIT);
        exit.follow(0, 300);
        check.same("a label is no argument of EXIT", exit.trace(0, 1), 0);
        for (int number : new int[] {Check.IN, Check.RECEIVE}) {
            Fenced x = new Fenced();
            x.mark(0);
            Check.lines(x, Check.LABEL, 1, 0, 0, Check.HOST, 0, 0, number, Check.HOST, 0, 0, Check.OUT, Check.HOST, 0, 0, Check.EXIT);
            check.same("the answer is an int", x.follow(0, 300), 1);
            check.same("the answer is -1", x.trace(1, 1), -1);
        }
    }

    private static Fenced withLabelAt(int address, int start, int length) {
        Fenced x = new Fenced();
        x.mark(0);
        Check.lines(x, Check.LABEL, 0, 0, 0, Check.STORE, 0, 4, address, Check.SET, 1, 0, start, Check.SET, 2, 0, length,
            Check.HOST, 0, 0, Check.PRINT, Check.HOST, 0, 0, Check.OUT, Check.HOST, 0, 0, Check.EXIT);
        return x;
    }

    private static void labelsThatPrintWouldPutOut() {
        int[][] cases = {{5, 0, 5, 1, 5}, {5, 0, 6, 3, 0}, {5, 5, 1, 3, 0}, {5, 5, 0, 1, 0}, {5, 6, 10, 1, 10}, {5, 6, 11, 1, -1},
            {5, 0, 17, 1, -1}, {5, -1, 9, 1, -1}, {5, 5, -1, 1, -1}, {0, 0, 16, 3, 0}, {15, 0, 16, 3, 0}, {15, 0, 15, 1, 15}, {15, 16, 0, 1, 0},
            {5, 2, Check.MOST_I, 1, -1}};
        for (int[] f : cases) {
            Fenced x = withLabelAt(f[0], f[1], f[2]);
            String what = "a label at " + f[0] + ", PRINT " + f[1] + ", " + f[2];
            check.same(what, x.follow(2, 300), f[3]);
            if (f[3] == 1) {
                check.same(what + ": number", x.trace(0, 0), Check.PRINT);
                check.same(what + ": first argument", x.trace(0, 1), f[1]);
                check.same(what + ": second argument", x.trace(0, 2), f[2]);
                check.same(what + ": answer", x.trace(1, 1), f[4]);
            } else {
                check.same(what + ": not noted", x.trace(-1, 0), 0);
            }
        }
    }

    private static void jumps() {
        ends("JUMP to 0", Check.withLines(Check.JUMP, 0, 0, 0), 0, 4);
        ends("JUMP to a place's number", Check.withLines(Check.SET, 0, 0, 2, Check.JUMP, 0, 0, 0, Check.HOST, 0, 0, 0), 1, 4);
        Fenced x = Check.withLines(Check.LABEL, 3, 0, 1, Check.JUMP, 3, 7, 99);
        x.mark(1);
        ends("JUMP behind the last line", x, 2, 2);
        Fenced y = new Fenced();
        y.mark(6);
        Check.lines(y, Check.LABEL, 3, 0, 6, Check.JUMP, 3, 0, 0);
        check.same("JUMP backward", y.follow(0, 300), 0);
        Fenced z = Check.withLines(Check.LABEL, 0, 0, 7, Check.STORE, 0, 4, 0, Check.SET, 0, 0, 0, Check.LOAD, 1, 0, 1, Check.JUMP, 1, 0, 0);
        z.mark(7);
        ends("JUMP to a word beside a label", z, 4, 4);
    }

    private static void addresses() {
        for (int op : new int[] {Check.LOAD, Check.STORE}) {
            for (int i : new int[] {-1, 16, 17, Check.MOST_I, Check.LEAST_I}) {
                ends("op " + op + " at " + i, Check.withLines(op, 1, 0, i), 0, 5);
                int j = Math.max(Check.LEAST_I, i + (i < 0 ? -100 : 100));
                ends("op " + op + " at -100 + " + j, Check.withLines(Check.SET, 0, 0, -100, op, 1, 0, Math.min(Check.MOST_I, j)), 1, 5);
            }
            for (int i : new int[] {0, 1, 15}) {
                ends("op " + op + " at " + i, Check.withLines(op, 1, 0, i), 1, 2);
                ends("op " + op + " at 100 - " + (100 - i), Check.withLines(Check.SET, 0, 0, 100, op, 1, 0, i - 100), 2, 2);
            }
        }
        Fenced x = new Fenced();
        x.mark(0);
        Check.lines(x, Check.LABEL, 0, 0, 0, Check.STORE, 0, 4, 16);
        ends("STORE of a label at 16", x, 1, 5);
    }

    private static void labelsBeforeAddresses() {
        for (int op : new int[] {Check.LOAD, Check.STORE}) {
            for (int i : new int[] {-1, 0, 15, 16, 1000}) {
                Fenced x = new Fenced();
                x.mark(0);
                Check.lines(x, Check.LABEL, 0, 0, 0, op, 1, 0, i);
                ends("op " + op + " at a label + " + i, x, 1, 3);
            }
        }
    }

    /** Puts r1 out after the lines, so that the trace has it. */
    private static int resultOf(int... fields) {
        Fenced x = Check.withLines(fields);
        Check.lines(x, Check.HOST, 0, 0, Check.OUT, Check.HOST, 0, 0, Check.EXIT);
        check.same("lines that compute", x.follow(0, 300), 1);
        return x.trace(0, 1);
    }

    private static void computesAsTheWordsDo() {
        check.same("SET", resultOf(Check.SET, 1, 7, -9), -9);
        check.same("COPY", resultOf(Check.SET, 2, 0, 5, Check.COPY, 1, 2, -7), -2);
        check.same("ADD", resultOf(Check.SET, 1, 0, 12, Check.SET, 2, 0, 10, Check.ADD, 1, 2, 5), 22);
        check.same("SUB", resultOf(Check.SET, 1, 0, 12, Check.SET, 2, 0, 10, Check.SUB, 1, 2, 5), 2);
        check.same("XOR", resultOf(Check.SET, 1, 0, 12, Check.SET, 2, 0, 10, Check.XOR, 1, 2, 5), 6);
        check.same("AND", resultOf(Check.SET, 2, 0, 10, Check.AND, 1, 2, -3), 8);
        check.same("OR", resultOf(Check.SET, 2, 0, 10, Check.OR, 1, 2, 5), 15);
        check.same("LOAD of 0", resultOf(Check.SET, 1, 0, 5, Check.LOAD, 1, 0, 9), 0);
        check.same("STORE and LOAD", resultOf(Check.SET, 3, 0, 55, Check.SET, 2, 0, -2, Check.STORE, 3, 2, 9, Check.LOAD, 1, 0, 7), 55);
        check.same("a register is 0 at first", resultOf(Check.COPY, 1, 4, 0), 0);
        int[][] compared = {{Check.BEQ, 4, 4, 1}, {Check.BEQ, 4, 5, 0}, {Check.BLT, 4, 5, 1}, {Check.BLT, 5, 5, 0}, {Check.BLT, 6, 5, 0}, {Check.BLT, -6, 5, 1}};
        for (int[] f : compared) {
            Fenced x = Check.withLines(Check.SET, 1, 0, f[1], Check.SET, 2, 0, f[2], f[0], 1, 2, 4, Check.TRAP, 0, 0, 0);
            x.mark(4);
            Check.lines(x, Check.HOST, 0, 0, Check.EXIT);
            check.same("op " + f[0] + " of " + f[1] + ", " + f[2], x.follow(0, 300), f[3] == 1 ? 1 : 2);
        }
        int[] doubling = new int[4 * 13];
        for (int n = 0; n < 13; n++) {
            doubling[4 * n] = n == 0 ? Check.SET : n < 12 ? Check.ADD : Check.COPY;
            doubling[4 * n + 1] = 1;
            doubling[4 * n + 2] = 1;
            doubling[4 * n + 3] = n == 0 ? 1 << 20 : -1;
        }
        check.same("sums wrap", resultOf(doubling), Integer.MAX_VALUE);
    }

    private static void beginsAnewEachTime() {
        Fenced x = Check.withLines(Check.COPY, 1, 3, 0, Check.HOST, 0, 0, Check.OUT, Check.LOAD, 1, 4, 15, Check.HOST, 0, 0, Check.OUT,
            Check.SET, 3, 0, 7, Check.STORE, 3, 4, 15, Check.LABEL, 2, 0, 0, Check.STORE, 2, 4, 3);
        x.mark(0);
        for (int again = 0; again < 3; again++) {
            check.same("follow", x.follow(again, 300), 2);
            check.same("r3 is 0 at first", x.trace(0, 1), 0);
            check.same("word 15 is 0 at first", x.trace(1, 1), 0);
        }
        x.clear();
        Check.lines(x, Check.ADD, 1, 2, 0, Check.LOAD, 1, 4, 3, Check.ADD, 1, 1, 0);
        ends("no labels at first", x, 3, 2);
    }

    private static void answer(String what, int due, int number, int r1, int r2) {
        Fenced x = Check.withLines(Check.SET, 1, 0, r1, Check.SET, 2, 0, r2, Check.HOST, 0, 0, number,
            Check.HOST, 0, 0, Check.OUT, Check.HOST, 0, 0, Check.EXIT);
        check.same(what, x.follow(1, 300), 1);
        check.same(what + ": number", x.trace(0, 0), number);
        check.same(what + ": answer", x.trace(1, 1), due);
    }

    private static void hostAnswers() {
        answer("OUT", 0, Check.OUT, 5, 6);
        answer("IN", -1, Check.IN, 5, 6);
        answer("ALLOC 16", 0, Check.ALLOC, 16, 6);
        answer("ALLOC 17", -1, Check.ALLOC, 17, 6);
        answer("ALLOC 0", -1, Check.ALLOC, 0, 6);
        answer("PRINT 3, 13", 13, Check.PRINT, 3, 13);
        answer("PRINT 3, 14", -1, Check.PRINT, 3, 14);
        answer("PRINT 16, 0", 0, Check.PRINT, 16, 0);
        for (int k = -1; k < 4; k++) {
            answer("SEND " + k, -1, Check.SEND, k, 6);
        }
        answer("RECEIVE", -1, Check.RECEIVE, 5, 6);
        Fenced x = Check.withLines(Check.SET, 1, 0, 5, Check.HOST, 0, 0, Check.ALLOC, Check.SET, 1, 0, 6, Check.HOST, 0, 0, Check.ALLOC,
            Check.HOST, 0, 0, Check.OUT, Check.SET, 1, 0, 6, Check.HOST, 0, 0, Check.ALLOC, Check.HOST, 0, 0, Check.OUT);
        for (int again = 0; again < 2; again++) {
            check.same("ALLOC twice", x.follow(0, 300), 2);
            check.same("second ALLOC", x.trace(2, 1), 5);
            check.same("third ALLOC", x.trace(4, 1), -1);
        }
    }

    private static void takesAllInputsAgain() {
        Fenced x = Check.loaded(2, Check.HOST, 0, 0, Check.IN, Check.HOST, 0, 0, Check.OUT, Check.HOST, 0, 0, Check.IN,
            Check.HOST, 0, 0, Check.OUT, Check.HOST, 0, 0, Check.IN, Check.HOST, 0, 0, Check.OUT);
        x.feed(2, 70);
        x.feed(2, 71);
        x.run(3);
        for (int again = 0; again < 2; again++) {
            check.same("follow", x.follow(2, 300), 2);
            check.sameText("inputs from the first one on", Check.text(x.trace(1, 1), x.trace(3, 1), x.trace(5, 1)), Check.text(70, 71, -1));
            x.follow(1, 300);
            check.sameText("none of an empty sandbox", Check.text(x.trace(1, 1), x.trace(3, 1), x.trace(5, 1)), Check.text(-1, -1, -1));
        }
        x.run(1);
        check.same("the sandbox's own inputs were not taken", x.output(2, 0), 71);
        x.load(2);
        x.follow(2, 300);
        check.same("none after loading", x.trace(1, 1), -1);
    }

    private static void leavesTheSandboxesAlone() {
        Fenced x = Check.loaded(0, Check.SET, 1, 0, 3, Check.HOST, 0, 0, Check.ALLOC, Check.STORE, 1, 1, 0, Check.SET, 2, 0, 8,
            Check.HOST, 0, 0, Check.SEND, Check.SET, 1, 0, 0, Check.HOST, 0, 0, Check.PRINT, Check.HOST, 0, 0, Check.OUT,
            Check.HOST, 0, 0, Check.RECEIVE, Check.HOST, 0, 0, Check.EXIT);
        x.feed(0, 5);
        x.run(2);
        String before = Check.picture(x).split("\ntrace")[0];
        check.same("follow", x.follow(0, 300), 1);
        check.sameText("it leaves all but the trace", Check.picture(x).split("\ntrace")[0], before);
        x.clear();
        Check.words(x, Check.w(Check.SET, 1, 0, 16), Check.w(Check.HOST, 0, 0, Check.ALLOC));
        x.load(0);
        Check.lines(x, Check.SET, 1, 0, 16, Check.HOST, 0, 0, Check.ALLOC);
        x.follow(0, 300);
        x.run(2);
        check.same("BREAK is the sandbox's own", x.register(0, 1), 0);
    }

    private static void refuses() {
        Fenced x = Check.withLines(Check.HOST, 0, 0, Check.OUT);
        check.same("follow", x.follow(0, 300), 2);
        String before = Check.picture(x);
        for (int n : new int[] {-1, 301, Integer.MAX_VALUE, Integer.MIN_VALUE}) {
            check.same("follow(0, " + n + ")", x.follow(0, n), -1);
        }
        for (int k : new int[] {-1, 3, Integer.MAX_VALUE, Integer.MIN_VALUE}) {
            check.same("follow(" + k + ", 5)", x.follow(k, 5), -1);
        }
        x.line(Check.GO, 0, 0, 0);
        check.same("follow of what can't be rewritten", x.follow(0, 5), -1);
        check.sameText("a refused following changes nothing", Check.picture(x), before);
        x.mark(0);
        check.same("follow with no steps", x.follow(0, 0), 0);
        check.same("it is the latest", x.trace(-1, 0), 0);
    }

    private static void traceOfTheLatest() {
        Fenced x = new Fenced();
        x.mark(0);
        Check.lines(x, Check.COPY, 3, 3, 1, Check.COPY, 1, 3, 0, Check.SET, 2, 0, 100, Check.HOST, 0, 0, Check.SEND, Check.GO, 0, 0, 0);
        check.same("follow", x.follow(0, 300), 0);
        for (int what : new int[] {0, 1, 2, 3, -1, Integer.MAX_VALUE, Integer.MIN_VALUE}) {
            check.same("how many, with what " + what, x.trace(-1, what), 60);
        }
        for (int j = 0; j < 20; j++) {
            check.sameText("trace " + j, Check.text(x.trace(j, 0), x.trace(j, 1), x.trace(j, 2)),
                j < 16 ? Check.text(5, j + 1, 100) : Check.text(0, 0, 0));
            check.same("trace with what 3", x.trace(j, 3), 0);
            check.same("trace with what -1", x.trace(j, -1), 0);
        }
        for (int j : new int[] {-2, 16, Integer.MAX_VALUE, Integer.MIN_VALUE}) {
            check.same("trace(" + j + ")", x.trace(j, 0), 0);
        }
        x.clear();
        check.same("clear leaves it", x.trace(-1, 0), 60);
        check.same("follow of no lines", x.follow(1, 5), 2);
        check.same("then it is empty", x.trace(-1, 0), 0);
        check.same("and call 0 is gone", x.trace(0, 0), 0);
    }
}
