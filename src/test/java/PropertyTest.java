import java.util.Random;

/** What has to hold for all runs, tried on many that are made up; the seed is fixed, so each time they are the same. */
public final class PropertyTest {
    private static final Check check = new Check();
    private static final Random random = new Random(20261115);

    public static void main(String[] args) {
        for (int n = 0; n < 20000; n++) {
            rewrittenCodeIsSafeAndDoesWhatFollowingSays();
        }
        System.out.println("followings by reason: " + Check.text(reasons));
        for (int reason = 0; reason < 6; reason++) {
            check.yes("followings that end with " + reason + " are tried", reasons[reason] > 100);
        }
        for (int n = 0; n < 4000; n++) {
            fencesHold();
        }
        for (int n = 0; n < 300; n++) {
            refusedCallsChangeNothing();
        }
        for (int n = 0; n < 500; n++) {
            wildCalls();
        }
        check.end();
    }

    private static final int[] reasons = new int[6];

    private static int below(int n) {
        return random.nextInt(n);
    }

    private static int oneOf(int... numbers) {
        return numbers[below(numbers.length)];
    }

    private static void addLine(Fenced x) {
        int op = oneOf(1, 1, 2, 2, 3, 4, 5, 6, 7, 8, 9, 9, 10, 11, 12, 13, 14, 14, 14, 15, 15);
        int a = below(5);
        int b = below(5);
        int i = op >= 10 && op != 14 ? below(8) : op == 14 ? oneOf(0, 1, 1, 2, 3, 4, 6) : op == 8 || op == 9 ? below(16) : oneOf(0, 0, 1, 2, 15, -1, below(50) - 10);
        x.line(op, a, b, i);
    }

    private static Fenced madeUpSource() {
        Fenced x = new Fenced();
        int lines = 1 + below(14);
        int[] labelAt = new int[8];
        for (int n = 0; n < 8; n++) {
            labelAt[n] = below(lines + 1);
        }
        for (int p = 0; p <= lines; p++) {
            for (int n = 0; n < 8; n++) {
                if (labelAt[n] == p) {
                    x.mark(n);
                }
            }
            if (p < lines) {
                addLine(x);
            }
        }
        return x;
    }

    private static void rewrittenCodeIsSafeAndDoesWhatFollowingSays() {
        Fenced x = madeUpSource();
        int k = below(3);
        if (x.rewrite(k) == -1) {
            check.same("follow of what can't be rewritten", x.follow(k, 5), -1);
            return;
        }
        check.same("verify of rewritten code", x.verify(k), -1);
        check.yes("load of rewritten code", x.load(k));
        for (int n = below(4); n > 0; n--) {
            x.feed(k, below(20) - 2);
        }
        int reason = x.follow(k, 300);
        reasons[reason]++;
        if (reason > 2) {
            return;
        }
        x.run(500);
        x.run(500);
        x.run(500);
        if (reason != 0) {
            check.same("state after a following that ended with " + reason, x.state(k), reason == 1 ? 2 : 3);
            check.same("how many calls", x.call(k, -1, 0), x.trace(-1, 0));
        }
        for (int j = 0; j < Math.min(16, x.trace(-1, 0)); j++) {
            for (int what = 0; what < 3; what++) {
                check.same("call " + j, x.call(k, j, what), x.trace(j, what));
            }
        }
    }

    private static void addSafeWords(Fenced x, int k) {
        for (int n = 0; n < 40 && x.module(-1) < 31; n++) {
            int d = 16 * k;
            int e = 64 + 32 * k;
            switch (below(9)) {
                case 0:
                    Check.words(x, Check.w(8 + below(2), below(6), 6, 0));
                    break;
                case 1:
                    if (x.module(-1) < 30) {
                        Check.words(x, Check.w(6, 6, below(8), 15), Check.w(7, 6, 6, d));
                    }
                    break;
                case 2:
                    if (x.module(-1) < 30) {
                        Check.words(x, Check.w(6, 7, below(8), 31), Check.w(7, 7, 7, e));
                    }
                    break;
                case 3:
                    Check.words(x, oneOf(Check.w(13, 7, below(8), below(9)), Check.w(7, 6, 6, d), Check.w(7, 7, 7, e)));
                    break;
                case 4:
                    Check.words(x, Check.w(10 + below(3), below(8), below(8), below(31) - x.module(-1) - 1));
                    break;
                case 5:
                    Check.words(x, Check.w(14, below(8), below(8), oneOf(1, 2, 3, 4, 5, 5, 6, 6)));
                    break;
                default:
                    Check.words(x, Check.w(1 + below(7), below(6), below(8), oneOf(0, 1, 2, -1, below(64), random.nextInt() >> 10)));
                    break;
            }
        }
    }

    private static void fencesHold() {
        Fenced x = new Fenced();
        int[] code = new int[256];
        for (int k = 0; k < 3; k++) {
            x.clear();
            addSafeWords(x, k);
            if (x.verify(k) == -1) {
                check.yes("load of safe words", x.load(k));
                for (int p = 0; p < 32; p++) {
                    code[64 + 32 * k + p] = x.module(p);
                }
            }
        }
        int[] data = new int[48];
        for (int n = 0; n < 60; n++) {
            int[] places = {x.pc(0), x.pc(1), x.pc(2)};
            int[] registers = {x.register(0, 1), x.register(1, 1), x.register(2, 1)};
            int made = x.run(1);
            int stepped = -1;
            for (int k = 0; k < 3; k++) {
                boolean moved = x.pc(k) != places[k] || x.register(k, 1) != registers[k];
                stepped = moved ? k : stepped;
                check.yes("pc is in its own code", x.state(k) == 0 || x.pc(k) >= 64 + 32 * k && x.pc(k) <= 95 + 32 * k);
                check.yes("r6 is among its own data after OR", x.state(k) == 0 || x.register(k, 6) >= 0 && x.register(k, 6) <= 16 * k + 15);
            }
            check.yes("run(1)", made == 0 || made == 1);
            for (int address = 0; address < 48; address++) {
                int now = x.peek(address);
                check.yes("data is changed by its own sandbox alone", now == data[address] || address / 16 == stepped);
                data[address] = now;
            }
        }
        int changed = 0;
        for (int address = 48; address < 256; address++) {
            changed += x.peek(address) != code[address] ? 1 : 0;
        }
        check.same("words outside the data that changed", changed, 0);
    }

    private static int near(int most) {
        return below(12) == 0 ? oneOf(-1, most + 1, Integer.MAX_VALUE, Integer.MIN_VALUE) : below(most + 1);
    }

    private static int madeUpWord() {
        int k = below(3);
        return oneOf(0, Check.w(1, below(6), 0, below(20)), Check.w(14, 0, 0, below(7)), Check.w(7, 6, 6, 16 * k), Check.w(6, 6, below(8), 15),
            Check.w(9, below(8), 6, 0), Check.w(12, 0, 0, -1 - below(4)), below(20) == 0 ? random.nextInt() : Check.w(2, 1, 1, 1));
    }

    /** One of the calls that can be refused: 1 if it was, and then on its twin it is left out. */
    private static boolean isRefused(Fenced x, int which, int[] v) {
        switch (which) {
            case 0:
                return !x.line(v[0], v[1], v[2], v[3]);
            case 1:
                return !x.mark(v[0]);
            case 2:
                return x.rewrite(v[0]) == -1;
            case 3:
                return !x.word(v[0]);
            case 4:
                return !x.load(v[0]);
            case 5:
                return !x.feed(v[0], v[1]);
            case 6:
                return x.run(v[0]) == -1;
            case 7:
                return x.follow(v[0], v[1]) == -1;
            default:
                x.clear();
                return false;
        }
    }

    private static int[] argumentsOf(int which) {
        switch (which) {
            case 0:
                return new int[] {near(15), near(4), near(4), below(9) == 0 ? oneOf(2097152, -2097153) : below(9)};
            case 1:
                return new int[] {near(7)};
            case 3:
                return new int[] {madeUpWord()};
            case 5:
                return new int[] {near(2), below(100)};
            case 6:
                return new int[] {below(6) == 0 ? oneOf(-1, 501) : below(20)};
            case 7:
                return new int[] {near(2), below(6) == 0 ? oneOf(-1, 301) : below(40)};
            default:
                return new int[] {near(2)};
        }
    }

    private static void refusedCallsChangeNothing() {
        Fenced x = new Fenced();
        Fenced twin = new Fenced();
        for (int n = 0; n < 200; n++) {
            int which = oneOf(0, 0, 0, 1, 1, 2, 3, 3, 4, 4, 5, 6, 6, 7, below(8) == 0 ? 8 : 6);
            int[] values = argumentsOf(which);
            if (!isRefused(x, which, values)) {
                check.no("a call that the twin refuses", isRefused(twin, which, values));
            }
            if (n % 20 == 19) {
                check.sameText("the twin without the refused calls", Check.picture(twin), Check.picture(x));
            }
        }
    }

    private static int wild() {
        return oneOf(0, 1, 2, 3, 7, 8, 15, 16, 31, 300, 500, -1, -2, 1 << 21, -(1 << 21), Integer.MAX_VALUE, Integer.MIN_VALUE, random.nextInt(), below(3), below(8));
    }

    /** An exception would end the test with another exit code than 0. */
    private static void wildCalls() {
        Fenced x = new Fenced();
        for (int n = 0; n < 512; n++) {
            int which = below(12);
            if (which < 9) {
                isRefused(x, which == 8 ? below(30) == 0 ? 8 : 4 : which, below(3) == 0 ? new int[] {wild(), wild(), wild(), wild()} : argumentsOf(which == 8 ? 4 : which));
            } else {
                x.state(wild());
                x.pc(wild());
                x.register(wild(), wild());
                x.peek(wild());
                x.output(wild(), wild());
                x.call(wild(), wild(), wild());
                x.trace(wild(), wild());
                x.module(wild());
                x.verify(wild());
            }
        }
        check.yes("wild calls come to an end", true);
    }
}
