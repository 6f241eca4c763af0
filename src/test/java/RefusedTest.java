import java.util.function.Consumer;
import java.util.function.Predicate;

/**
 * "A call that is refused changes nothing": each call that can be refused, for each of the reasons that the document names.
 * Two objects are brought to the same state; the one then gets the refused call, and both go on in the same way.
 */
public final class RefusedTest extends Check {
    public static void main(String[] args) {
        new RefusedTest().all();
    }

    private void all() {
        sentence("line: op is not 0 .. 15", () -> eachOutside(15, n -> x -> !x.line(n, 1, 1, 1)));
        sentence("line: a not 0 .. 7", () -> eachOutside(7, n -> x -> !x.line(SET, n, 1, 1)));
        sentence("line: b not 0 .. 7", () -> eachOutside(7, n -> x -> !x.line(SET, 1, n, 1)));
        sentence("line: i not -2^21 .. 2^21 - 1", this::lineWithI);
        sentence("line: 24 lines are there", () -> changesNothing("line", RefusedTest::fillLines, x -> !x.line(SET, 1, 0, 99)));
        sentence("mark: n is not 0 .. 7", () -> eachOutside(7, n -> x -> !x.mark(n)));
        sentence("mark: it is set already", this::markOfASetLabel);
        sentence("rewrite: k is not 0 .. 2", () -> eachOutside(2, n -> x -> x.rewrite(n) == -1));
        sentence("rewrite: the source can't be rewritten", this::rewriteOfASource);
        sentence("word: it has 31", () -> changesNothing("word", RefusedTest::fillModule, x -> !x.word(5)));
        sentence("verify: k is not 0 .. 2", () -> eachOutside(2, n -> x -> x.verify(n) == -2));
        sentence("load: k is not 0 .. 2", () -> eachOutside(2, n -> x -> !x.load(n)));
        sentence("load: the module is not safe for it", this::loadOfWhatIsNotSafe);
        sentence("feed: k is not 0 .. 2", () -> eachOutside(2, n -> x -> !x.feed(n, 5)));
        sentence("feed: is empty", () -> changesNothing("feed", x -> { }, x -> !x.feed(2, 5)));
        sentence("feed: has got 12 since it was loaded", () -> changesNothing("feed", RefusedTest::fillInputs, x -> !x.feed(0, 5)));
        sentence("run: for another n", () -> eachOutside(500, n -> x -> x.run(n) == -1));
        sentence("follow: n is another one", () -> eachOutside(300, n -> x -> x.follow(0, n) == -1));
        sentence("follow: k is not 0 .. 2", () -> eachOutside(2, n -> x -> x.follow(n, 300) == -1));
        sentence("follow: the source can't be rewritten for k", this::followOfASource);
        sentence("questions: state, pc, register, peek, output, call, trace, module", this::questions);
        end();
    }

    /** Two sandboxes in the midst of their work, mail and inputs that wait, a BREAK, a source, a module and a trace. */
    private static Fenced busy() {
        Fenced x = new Fenced();
        x.mark(0);
        lines(x, COPY, 3, 3, 1, STORE, 3, 3, 0, HOST, 0, 0, IN, HOST, 0, 0, OUT, SET, 1, 0, 0, COPY, 2, 3, 0, HOST, 0, 0, SEND, SET, 1, 0, 3, HOST, 0, 0, ALLOC);
        x.mark(1);
        lines(x, HOST, 0, 0, RECEIVE, GO, 0, 0, 0);
        for (int k = 0; k < 2; k++) {
            install(x, k);
            for (int n = 0; n < 5; n++) {
                x.feed(k, 10 * k + n);
            }
        }
        x.run(31);
        x.follow(1, 40);
        x.word(w(SET, 2, 0, 2));
        return x;
    }

    private interface OfNumber {
        Predicate<Fenced> with(int n);
    }

    private void eachOutside(int most, OfNumber call) {
        for (int n : outside(most)) {
            changesNothing("with " + n, x -> { }, call.with(n));
        }
    }

    private void changesNothing(String what, Consumer<Fenced> before, Predicate<Fenced> refused) {
        Fenced x = busy();
        Fenced twin = busy();
        before.accept(x);
        before.accept(twin);
        yes(what + " is refused", refused.test(x));
        yes(what + " is refused again", refused.test(x));
        sameText(what + ": what can be asked", picture(x), picture(twin));
        goOnAlike(what, x, twin);
    }

    /** Brings to light what can't be asked: whose turn it is, mail, inputs, BREAK, lines and labels. */
    private void goOnAlike(String what, Fenced x, Fenced twin) {
        for (int n = 0; n < 4; n++) {
            same(what + ": run", x.run(1), twin.run(1));
            sameText(what + ": places after a step", text(x.pc(0), x.pc(1), x.pc(2)), text(twin.pc(0), twin.pc(1), twin.pc(2)));
        }
        same(what + ": follow", x.follow(0, 50), twin.follow(0, 50));
        same(what + ": run", x.run(120), twin.run(120));
        sameText(what + ": after a run", picture(x), picture(twin));
        for (int n = 0; n < 14; n++) {
            same(what + ": feed", x.feed(0, n) ? 1 : 0, twin.feed(0, n) ? 1 : 0);
        }
        for (int n = 0; n < 8; n++) {
            same(what + ": mark", x.mark(n) ? 1 : 0, twin.mark(n) ? 1 : 0);
        }
        same(what + ": line", x.line(GO, 0, 0, 1) ? 1 : 0, twin.line(GO, 0, 0, 1) ? 1 : 0);
        same(what + ": word", x.word(0) ? 1 : 0, twin.word(0) ? 1 : 0);
        same(what + ": follow", x.follow(0, 300), twin.follow(0, 300));
        for (int k = 0; k < 3; k++) {
            same(what + ": load", x.load(k) ? 1 : 0, twin.load(k) ? 1 : 0);
            same(what + ": rewrite", x.rewrite(k), twin.rewrite(k));
        }
        same(what + ": run", x.run(77), twin.run(77));
        sameText(what + ": in the end", picture(x), picture(twin));
    }

    private void lineWithI() {
        for (int i : new int[] {2097152, -2097153, Integer.MAX_VALUE, Integer.MIN_VALUE}) {
            changesNothing("i " + i, x -> { }, x -> !x.line(SET, 1, 1, i));
        }
    }

    private static void fillLines(Fenced x) {
        for (int n = 0; n < 24; n++) {
            x.line(TRAP, 0, 0, 0);
        }
    }

    private void markOfASetLabel() {
        for (int n = 0; n < 2; n++) {
            int label = n;
            changesNothing("label " + n, x -> { }, x -> !x.mark(label));
        }
    }

    private void rewriteOfASource() {
        int[][] wrong = {{SET, 5, 0, 0}, {COPY, 0, 5, 0}, {GO, 0, 0, 7}, {LABEL, 0, 0, 8}, {HOST, 0, 0, 7}};
        for (int[] f : wrong) {
            changesNothing("op " + f[0], x -> lines(x, f), x -> x.rewrite(0) == -1);
        }
        changesNothing("too many words", x -> lines(x, LOAD, 0, 0, 0, LOAD, 0, 0, 0, LOAD, 0, 0, 0, LOAD, 0, 0, 0, LOAD, 0, 0, 0), x -> x.rewrite(2) == -1);
    }

    private static void fillModule(Fenced x) {
        for (int n = 0; n < 31; n++) {
            x.word(w(SET, 1, 0, n));
        }
    }

    private void loadOfWhatIsNotSafe() {
        for (int word : new int[] {15, w(JUMP, 0, 0, 0), w(LOAD, 0, 6, 1), w(HOST, 0, 0, 7), w(AND, 6, 0, 15), w(GO, 0, 0, 0)}) {
            for (int k = 0; k < 3; k++) {
                int to = k;
                changesNothing("word " + word, x -> words(x, word), x -> !x.load(to));
            }
        }
        changesNothing("another one's module", x -> { }, x -> !x.load(0));
    }

    private static void fillInputs(Fenced x) {
        for (int n = 0; n < 12; n++) {
            x.feed(0, 40 + n);
        }
    }

    private void followOfASource() {
        int[][] wrong = {{SET, 5, 0, 0}, {COPY, 0, 5, 0}, {GO, 0, 0, 7}, {LABEL, 0, 0, 8}, {HOST, 0, 0, 7}};
        for (int[] f : wrong) {
            changesNothing("op " + f[0], x -> lines(x, f), x -> x.follow(0, 300) == -1);
        }
        changesNothing("too many words", x -> lines(x, LOAD, 0, 0, 0, LOAD, 0, 0, 0, LOAD, 0, 0, 0, LOAD, 0, 0, 0, LOAD, 0, 0, 0), x -> x.follow(0, 0) == -1);
    }

    private void questions() {
        for (int n : outside(255)) {
            changesNothing("with " + n, x -> { }, x -> {
                int sum = x.peek(n) + x.register(0, n) + x.register(n, 0) + x.output(1, n == -1 ? -2 : n) + x.output(n, 0);
                sum += x.call(n, 0, 0) + x.call(0, n == -1 ? -2 : n, 0) + x.call(0, 0, n) + x.trace(n == -1 ? -2 : n, 0) + x.trace(0, n);
                return sum + x.module(n == -1 ? -2 : n) == 0 && x.state(n) == -1 && x.pc(n) == -1;
            });
        }
    }
}
