import java.util.ArrayList;
import java.util.List;
import java.util.Random;

/** Made-up runs of at most 512 calls, each answer held against the model's; the seed is fixed, so the runs stay the same. */
public final class ModelTest {
    private static final int MOST_CALLS = 512;
    private static final int RUNS = 6000;
    private static final int TOLD = 5;

    private static final Check check = new Check();
    private static final Random random = new Random(1115);
    private static int told;

    private final FencedModules program = new FencedModules();
    private final Model model = new Model();
    private final List<String> calls = new ArrayList<>();

    public static void main(String[] args) {
        for (int run = 0; run < RUNS && told < TOLD; run++) {
            ModelTest one = new ModelTest();
            while (one.goesOn()) {
                one.doSomething(run % 5);
            }
        }
        check.end();
    }

    private static int below(int n) {
        return random.nextInt(n);
    }

    private static boolean once(int in) {
        return below(in) == 0;
    }

    private static int oneOf(int... numbers) {
        return numbers[below(numbers.length)];
    }

    /** 0 .. most, at times one beside it or far off. */
    private static int upTo(int most) {
        return once(25) ? oneOf(-1, -2, most + 1, most + 2, Integer.MAX_VALUE, Integer.MIN_VALUE) : below(most + 1);
    }

    private boolean goesOn() {
        return calls.size() < MOST_CALLS && told < TOLD;
    }

    private int same(String call, int got, int due) {
        if (calls.size() >= MOST_CALLS) {
            return due;
        }
        calls.add(call);
        check.same(call, got, due);
        if (got != due) {
            told++;
            System.out.println("  the calls before, on a new object: " + calls);
        }
        return due;
    }

    private int same(String call, boolean got, boolean due) {
        return same(call, got ? 1 : 0, due ? 1 : 0);
    }

    private void line(int op, int a, int b, int i) {
        if (goesOn()) {
            same("line(" + op + ", " + a + ", " + b + ", " + i + ")", program.line(op, a, b, i), model.line(op, a, b, i));
        }
    }

    private void mark(int n) {
        if (goesOn()) {
            same("mark(" + n + ")", program.mark(n), model.mark(n));
        }
    }

    private void clear() {
        if (goesOn()) {
            program.clear();
            model.clear();
            calls.add("clear()");
        }
    }

    private void rewrite(int k) {
        if (goesOn()) {
            same("rewrite(" + k + ")", program.rewrite(k), model.rewrite(k));
        }
    }

    private void word(int w) {
        if (goesOn()) {
            same("word(" + w + ")", program.word(w), model.word(w));
        }
    }

    private void load(int k) {
        if (goesOn()) {
            same("load(" + k + ")", program.load(k), model.load(k));
        }
    }

    private void feed(int k, int v) {
        if (goesOn()) {
            same("feed(" + k + ", " + v + ")", program.feed(k, v), model.feed(k, v));
        }
    }

    private void run(int n) {
        if (goesOn()) {
            same("run(" + n + ")", program.run(n), model.run(n));
        }
    }

    private void follow(int k, int n) {
        if (goesOn()) {
            same("follow(" + k + ", " + n + ")", program.follow(k, n), model.follow(k, n));
        }
    }

    private void ask() {
        int k = upTo(2);
        int n;
        switch (below(10)) {
            case 0 -> same("state(" + k + ")", program.state(k), model.state(k));
            case 1 -> same("pc(" + k + ")", program.pc(k), model.pc(k));
            case 2, 3 -> {
                n = upTo(7);
                same("register(" + k + ", " + n + ")", program.register(k, n), model.register(k, n));
            }
            case 4 -> {
                n = once(3) ? upTo(255) : below(50);
                same("peek(" + n + ")", program.peek(n), model.peek(n));
            }
            case 5 -> {
                n = once(4) ? -1 : upTo(7);
                same("output(" + k + ", " + n + ")", program.output(k, n), model.output(k, n));
            }
            case 6 -> {
                n = once(4) ? -1 : upTo(once(2) ? 15 : 4);
                int what = upTo(2);
                same("call(" + k + ", " + n + ", " + what + ")", program.call(k, n, what), model.call(k, n, what));
            }
            case 7 -> {
                n = once(4) ? -1 : upTo(once(2) ? 15 : 4);
                int what = upTo(2);
                same("trace(" + n + ", " + what + ")", program.trace(n, what), model.trace(n, what));
            }
            case 8 -> {
                n = once(4) ? -1 : upTo(30);
                same("module(" + n + ")", program.module(n), model.module(n));
            }
            default -> same("verify(" + k + ")", program.verify(k), model.verify(k));
        }
    }

    private void askMuch(int questions) {
        for (int n = 0; n < questions && goesOn(); n++) {
            ask();
        }
    }

    private void doSomething(int kind) {
        switch (kind) {
            case 0 -> sourceThatRuns();
            case 1 -> handMadeModule();
            case 2 -> callsOfTheHost();
            case 3 -> labelsInWords();
            default -> anything();
        }
    }

    /** Mostly 0 .. 4, so that the source can be rewritten. */
    private static int free() {
        return once(120) ? below(8) : below(5);
    }

    private static int number() {
        return once(30) ? oneOf(Check.MOST_I, Check.LEAST_I, 1 << 20) : once(2) ? below(20) - 2 : oneOf(0, 0, 1, 2, 3, 15, 16, 31, -1);
    }

    private void madeUpLine() {
        int op = oneOf(1, 1, 2, 2, 3, 4, 5, 6, 7, 8, 8, 9, 9, 10, 11, 12, 13, 13, 14, 14, 14, 15, 15, 15, once(9) ? 0 : 2);
        int i = op >= 10 && op != 14 ? (once(150) ? upTo(7) : below(8)) : op == 14 ? (once(150) ? upTo(6) : below(7)) : op == 8 || op == 9 ? oneOf(0, 1, 14, 15, below(16), once(5) ? 16 : 2) : number();
        line(op, free(), free(), i);
    }

    private void madeUpSource(int lines) {
        int[] places = new int[8];
        for (int n = 0; n < 8; n++) {
            places[n] = once(60) ? -1 : below(lines + 1);
        }
        for (int p = 0; p <= lines; p++) {
            for (int n = 0; n < 8; n++) {
                if (places[n] == p || once(400)) {
                    mark(n);
                }
            }
            if (p < lines) {
                madeUpLine();
            }
        }
    }

    private void sourceThatRuns() {
        int k = below(3);
        clear();
        madeUpSource(once(10) ? below(27) : 1 + below(11));
        rewrite(once(20) ? upTo(2) : k);
        load(once(10) ? upTo(2) : k);
        for (int n = below(once(6) ? 15 : 4); n > 0; n--) {
            feed(once(10) ? upTo(2) : k, oneOf(number(), Integer.MAX_VALUE, Integer.MIN_VALUE, -1, 5));
        }
        for (int n = below(4); n >= 0; n--) {
            follow(once(10) ? upTo(2) : k, steps(300));
            askMuch(4);
            run(steps(500));
            askMuch(5);
        }
        askMuch(25);
    }

    private static int steps(int most) {
        return once(3) ? most : once(20) ? oneOf(-1, most + 1, Integer.MAX_VALUE, Integer.MIN_VALUE) : below(13);
    }

    private static int madeUpWord(int k, int place) {
        int any = random.nextInt() << 4;
        switch (below(12)) {
            case 0:
                return Check.w(oneOf(8, 9), below(8), once(20) ? below(8) : 6, once(20) ? oneOf(1, -1) : 0);
            case 1:
                return Check.w(oneOf(10, 11, 12), below(8), below(8), below(33) - 1 - place);
            case 2:
                return Check.w(oneOf(10, 11, 12), below(8), below(8), -below(3) - 1);
            case 3:
                return Check.w(13, once(20) ? below(8) : 7, below(8), number());
            case 4:
                return Check.w(14, below(8), below(8), once(30) ? oneOf(-1, 7) : below(7));
            case 5:
                return once(40) ? any | 15 : once(4) ? any & ~15 : 0;
            case 6:
                return once(2) ? Check.w(7, 6, 6, 16 * k) : Check.w(7, 7, 7, 64 + 32 * k);
            default:
                return Check.w(1 + below(7), once(30) ? below(8) : below(6), below(8), number());
        }
    }

    private void handMadeModule() {
        int k = below(3);
        clear();
        for (int n = once(5) ? 33 : below(12); n >= 0 && goesOn(); n--) {
            int at = model.module(-1);
            if (once(6)) {
                boolean data = once(2);
                int r = once(40) ? below(8) : data ? 6 : 7;
                word(Check.w(6, r, below(8), once(40) ? number() : data ? 15 : 31));
                if (!once(40)) {
                    word(Check.w(7, r, r, once(40) ? number() : data ? 16 * k : 64 + 32 * k));
                }
            } else {
                word(madeUpWord(k, at));
            }
        }
        askMuch(3);
        load(k);
        for (int n = below(5); n >= 0; n--) {
            run(steps(500));
            askMuch(6);
        }
    }

    private void callsOfTheHost() {
        int k = below(3);
        clear();
        mark(0);
        for (int n = 2 + below(5); n > 0; n--) {
            int number = oneOf(1, 2, 3, 3, 4, 4, 5, 5, 6, 6, once(3) ? 0 : 5);
            if (once(4)) {
                line(14, 0, 0, 2);
            } else {
                line(1, 1, 0, number == 5 ? below(4) - (once(4) ? 1 : 0) : number());
            }
            if (once(2)) {
                line(2, 2, oneOf(1, 2, 2), oneOf(0, 1));
            } else {
                line(1, 2, 0, number());
            }
            if (once(3)) {
                line(9, 2, oneOf(0, 3, 4), below(16));
            }
            line(14, 0, 0, number);
            if (once(3)) {
                line(14, 0, 0, 1);
            }
            if (once(5)) {
                line(oneOf(10, 11), oneOf(1, 2), oneOf(1, 2, 3), 0);
            }
        }
        if (once(2)) {
            line(12, 0, 0, 0);
        } else {
            line(14, 0, 0, oneOf(0, 6));
        }
        rewrite(k);
        load(k);
        for (int n = below(5); n > 0; n--) {
            feed(once(4) ? upTo(2) : k, oneOf(Integer.MAX_VALUE, Integer.MIN_VALUE, 0, 1, 8, 16, 17, number()));
        }
        for (int n = below(6); n >= 0; n--) {
            run(once(4) ? steps(500) : 1 + below(7));
            for (int more = once(6) ? below(13) : 0; more > 0; more--) {
                feed(k, number());
            }
            askMuch(5);
        }
        follow(k, 300);
        askMuch(15);
    }

    /** Labels and ints are stored, some of them put out or taken. */
    private void labelsInWords() {
        int k = below(3);
        clear();
        int marked = below(8);
        mark(marked);
        for (int n = 1 + below(3); n > 0; n--) {
            line(once(3) ? 1 : 15, 0, 0, marked);
            line(9, 0, 4, below(16));
        }
        for (int n = 1 + below(3); n > 0; n--) {
            line(1, 1, 0, below(19) - 1);
            line(1, 2, 0, once(2) ? below(4) : below(19) - 1);
            line(1, 0, 0, below(17));
            line(14, 0, 0, oneOf(4, 4, 4, 1, 3, 5));
            if (once(3)) {
                line(8, oneOf(0, 1, 2, 3), 4, below(16));
                line(oneOf(2, 3, 10, 13), below(4), below(4), oneOf(marked, 0));
            }
        }
        rewrite(k);
        load(k);
        follow(k, 300);
        askMuch(12);
        run(60);
        askMuch(6);
    }

    private void anything() {
        switch (below(14)) {
            case 0, 1 -> madeUpLine();
            case 2 -> line(upTo(15), upTo(7), upTo(7), oneOf(0, 1, Check.MOST_I, Check.MOST_I + 1, Check.LEAST_I, Check.LEAST_I - 1));
            case 3 -> mark(upTo(7));
            case 4 -> rewrite(upTo(2));
            case 5 -> word(madeUpWord(below(3), model.module(-1)));
            case 6, 7 -> load(upTo(2));
            case 8 -> feed(upTo(2), number());
            case 9, 10 -> run(steps(500));
            case 11 -> follow(upTo(2), steps(300));
            case 12 -> {
                if (once(6)) {
                    clear();
                }
            }
            default -> askMuch(6);
        }
    }
}
