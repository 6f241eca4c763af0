import java.util.ArrayList;
import java.util.List;

/**
 * A FencedModules as the tests use it. The document promises nothing after an object's 512th call: when its object is
 * used up, this one makes a new object, makes all calls again that may change something, and goes on with that.
 */
final class Fenced {
    private static final int MOST_CALLS = 512;

    private interface Change {
        int madeOn(FencedModules x);
    }

    private final List<Change> changes = new ArrayList<>();
    private final List<Integer> answers = new ArrayList<>();
    private FencedModules object = new FencedModules();
    private int calls;

    boolean line(int op, int a, int b, int i) {
        return change(x -> x.line(op, a, b, i) ? 1 : 0) == 1;
    }

    boolean mark(int n) {
        return change(x -> x.mark(n) ? 1 : 0) == 1;
    }

    void clear() {
        change(x -> {
            x.clear();
            return 0;
        });
    }

    int rewrite(int k) {
        return change(x -> x.rewrite(k));
    }

    boolean word(int w) {
        return change(x -> x.word(w) ? 1 : 0) == 1;
    }

    int module(int p) {
        return forOneCall().module(p);
    }

    int verify(int k) {
        return forOneCall().verify(k);
    }

    boolean load(int k) {
        return change(x -> x.load(k) ? 1 : 0) == 1;
    }

    boolean feed(int k, int v) {
        return change(x -> x.feed(k, v) ? 1 : 0) == 1;
    }

    int run(int n) {
        return change(x -> x.run(n));
    }

    int state(int k) {
        return forOneCall().state(k);
    }

    int pc(int k) {
        return forOneCall().pc(k);
    }

    int register(int k, int r) {
        return forOneCall().register(k, r);
    }

    int peek(int address) {
        return forOneCall().peek(address);
    }

    int output(int k, int j) {
        return forOneCall().output(k, j);
    }

    int call(int k, int j, int what) {
        return forOneCall().call(k, j, what);
    }

    int follow(int k, int n) {
        return change(x -> x.follow(k, n));
    }

    int trace(int j, int what) {
        return forOneCall().trace(j, what);
    }

    private int change(Change change) {
        int answer = change.madeOn(forOneCall());
        changes.add(change);
        answers.add(answer);
        return answer;
    }

    private FencedModules forOneCall() {
        if (calls >= MOST_CALLS) {
            makeAnew();
        }
        calls++;
        return object;
    }

    private void makeAnew() {
        if (changes.size() >= MOST_CALLS) {
            throw new IllegalStateException("a test makes more calls than one object is there for");
        }
        object = new FencedModules();
        for (int n = 0; n < changes.size(); n++) {
            if (changes.get(n).madeOn(object) != answers.get(n)) {
                System.out.println("the same calls gave other answers");
                System.exit(1);
            }
        }
        calls = changes.size();
    }
}
