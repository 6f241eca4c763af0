import java.util.ArrayDeque;
import java.util.ArrayList;
import java.util.Arrays;
import java.util.Deque;
import java.util.HashMap;
import java.util.List;
import java.util.Map;

/** The document once more, sentence by sentence and with Java's whole library, to hold the program's answers against. */
final class Model {
    private record Line(int op, int a, int b, int i) { }

    private record Label(int number) { }

    private record Call(int number, int first, int second) { }

    private static final class Box {
        int state;
        int pc;
        int brk;
        int taken;
        int[] r = new int[8];
        Deque<Integer> mail = new ArrayDeque<>();
        List<Integer> inputs = new ArrayList<>();
        List<Integer> outputs = new ArrayList<>();
        List<Call> calls = new ArrayList<>();
    }

    private final int[] memory = new int[256];
    private final Box[] boxes = {new Box(), new Box(), new Box()};
    private final List<Line> lines = new ArrayList<>();
    private final Map<Integer, Integer> labels = new HashMap<>();
    private List<Integer> module = new ArrayList<>();
    private List<Call> trace = new ArrayList<>();
    private int turn;
    private int madeInTurn;

    private static boolean in(long v, long least, long most) {
        return least <= v && v <= most;
    }

    boolean line(int op, int a, int b, int i) {
        if (!in(op, 0, 15) || !in(a, 0, 7) || !in(b, 0, 7) || !in(i, -2097152, 2097151) || lines.size() == 24) {
            return false;
        }
        return lines.add(new Line(op, a, b, i));
    }

    boolean mark(int n) {
        return in(n, 0, 7) && labels.putIfAbsent(n, lines.size()) == null;
    }

    void clear() {
        lines.clear();
        labels.clear();
        module.clear();
    }

    int rewrite(int k) {
        List<Integer> made = in(k, 0, 2) ? rewritten(k) : null;
        if (made == null) {
            return -1;
        }
        module = made;
        return made.size();
    }

    private static int joined(int op, int a, int b, int i) {
        return i * 1024 + b * 128 + a * 16 + op;
    }

    private static boolean usesForbidden(Line line) {
        boolean a = Arrays.asList(1, 2, 3, 4, 5, 6, 7, 8, 9, 10, 11, 13, 15).contains(line.op);
        boolean b = Arrays.asList(2, 3, 4, 5, 6, 7, 8, 9, 10, 11).contains(line.op);
        return a && line.a >= 5 || b && line.b >= 5;
    }

    private boolean namesWrong(Line line) {
        boolean label = line.op == 10 || line.op == 11 || line.op == 12 || line.op == 15;
        return label && !labels.containsKey(line.i) || line.op == 14 && !in(line.i, 0, 6);
    }

    /** Null when the source can't be rewritten. First the words with labels left open, then their places. */
    private List<Integer> rewritten(int k) {
        int d = 16 * k;
        int e = 64 + 32 * k;
        List<Integer> words = new ArrayList<>();
        int[] first = new int[lines.size() + 1];
        for (int p = 0; p < lines.size(); p++) {
            Line x = lines.get(p);
            if (usesForbidden(x) || namesWrong(x)) {
                return null;
            }
            first[p] = words.size();
            switch (x.op) {
                case 8, 9 -> words.addAll(List.of(joined(2, 5, x.b, x.i), joined(6, 6, 5, 15), joined(7, 6, 6, d), joined(x.op, x.a, 6, 0)));
                case 13 -> words.addAll(List.of(joined(6, 7, x.a, 31), joined(7, 7, 7, e), joined(13, 7, 0, 0)));
                case 0 -> words.add(0);
                case 1 -> words.add(joined(1, x.a, 0, x.i));
                case 3, 4, 5 -> words.add(joined(x.op, x.a, x.b, 0));
                case 14 -> words.add(joined(14, 0, 0, x.i));
                default -> words.add(joined(x.op, x.a, x.b, x.i));
            }
        }
        first[lines.size()] = words.size();
        words.add(0);
        if (words.size() > 31) {
            return null;
        }
        for (int p = 0; p < lines.size(); p++) {
            Line x = lines.get(p);
            if (x.op == 10 || x.op == 11 || x.op == 12 || x.op == 15) {
                int to = first[labels.get(x.i)];
                int i = to - first[p] - 1;
                words.set(first[p], x.op == 15 ? joined(1, x.a, 0, e + to) : x.op == 12 ? joined(12, 0, 0, i) : joined(x.op, x.a, x.b, i));
            }
        }
        return words;
    }

    boolean word(int w) {
        return module.size() < 31 && module.add(w);
    }

    int module(int p) {
        return p == -1 ? module.size() : in(p, 0, module.size() - 1) ? module.get(p) : 0;
    }

    int verify(int k) {
        if (!in(k, 0, 2)) {
            return -2;
        }
        for (int p = 0; p < module.size(); p++) {
            if (!isSafe(p, k)) {
                return p;
            }
        }
        return -1;
    }

    private boolean isSafe(int p, int k) {
        int w = module.get(p);
        int op = w & 15;
        int a = w >> 4 & 7;
        int b = w >> 7 & 7;
        int i = w >> 10;
        boolean safe = op != 15;
        safe &= !in(op, 10, 12) || in(p + 1 + i, 0, module.size() - 1);
        safe &= op != 13 || a == 7;
        safe &= op != 14 || in(i, 0, 6);
        safe &= op != 8 && op != 9 || b == 6 && i == 0;
        if (in(op, 1, 8) && a >= 6) {
            int start = a == 6 ? 16 * k : 64 + 32 * k;
            int or = joined(7, a, a, start);
            boolean before = op == 6 && i == (a == 6 ? 15 : 31) && p + 1 < module.size() && module.get(p + 1) == or;
            safe &= w == or || before;
        }
        return safe;
    }

    boolean load(int k) {
        if (verify(k) != -1) {
            return false;
        }
        for (int p = 0; p < 32; p++) {
            memory[64 + 32 * k + p] = p < module.size() ? module.get(p) : 0;
        }
        Arrays.fill(memory, 16 * k, 16 * k + 16, 0);
        Box box = new Box();
        box.r[6] = 16 * k;
        box.r[7] = 64 + 32 * k;
        box.pc = 64 + 32 * k;
        box.state = 1;
        boxes[k] = box;
        if (turn == k) {
            madeInTurn = 0;
        }
        return true;
    }

    boolean feed(int k, int v) {
        return in(k, 0, 2) && boxes[k].state != 0 && boxes[k].inputs.size() < 12 && boxes[k].inputs.add(v);
    }

    int run(int n) {
        if (!in(n, 0, 500)) {
            return -1;
        }
        int made = 0;
        while (made < n && Arrays.stream(boxes).anyMatch(box -> box.state == 1)) {
            while (boxes[turn].state != 1) {
                pass();
            }
            step(turn);
            made++;
            madeInTurn++;
            if (madeInTurn == 3 || boxes[turn].state != 1) {
                pass();
            }
        }
        return made;
    }

    private void pass() {
        turn = (turn + 1) % 3;
        madeInTurn = 0;
    }

    private void step(int k) {
        Box box = boxes[k];
        int w = memory[box.pc];
        int a = w >> 4 & 7;
        int b = w >> 7 & 7;
        int i = w >> 10;
        int[] r = box.r;
        int here = box.pc;
        box.pc = here + 1;
        switch (w & 15) {
            case 0 -> {
                box.state = 3;
                box.pc = here;
            }
            case 1 -> r[a] = i;
            case 2 -> r[a] = r[b] + i;
            case 3 -> r[a] = r[a] + r[b];
            case 4 -> r[a] = r[a] - r[b];
            case 5 -> r[a] = r[a] ^ r[b];
            case 6 -> r[a] = r[b] & i;
            case 7 -> r[a] = r[b] | i;
            case 8 -> r[a] = memory[r[b] + i];
            case 9 -> memory[r[b] + i] = r[a];
            case 10 -> box.pc += r[a] == r[b] ? i : 0;
            case 11 -> box.pc += r[a] < r[b] ? i : 0;
            case 12 -> box.pc += i;
            case 13 -> box.pc = r[a];
            case 14 -> {
                box.calls.add(noted(i, r[1], r[2]));
                if (i == 0) {
                    box.state = 2;
                    box.pc = here;
                } else {
                    r[1] = answer(k, i, r[1], r[2]);
                }
            }
            default -> throw new IllegalStateException("op 15 was loaded");
        }
    }

    private static Call noted(int number, int r1, int r2) {
        return switch (number) {
            case 1, 3 -> new Call(number, r1, 0);
            case 4, 5 -> new Call(number, r1, r2);
            default -> new Call(number, 0, 0);
        };
    }

    private static boolean prints(int r1, int r2) {
        return r1 >= 0 && r2 >= 0 && (long) r1 + r2 <= 16;
    }

    private int answer(int k, int number, int r1, int r2) {
        Box box = boxes[k];
        switch (number) {
            case 1:
                box.outputs.add(r1);
                return 0;
            case 2:
                return box.taken < box.inputs.size() ? box.inputs.get(box.taken++) : -1;
            case 3:
                if (!in(r1, 1, 16 - box.brk)) {
                    return -1;
                }
                box.brk += r1;
                return box.brk - r1;
            case 4:
                if (!prints(r1, r2)) {
                    return -1;
                }
                for (int p = 0; p < r2; p++) {
                    box.outputs.add(memory[16 * k + r1 + p]);
                }
                return r2;
            case 5:
                if (!in(r1, 0, 2) || boxes[r1].state == 0 || boxes[r1].mail.size() >= 4) {
                    return -1;
                }
                boxes[r1].mail.addLast(r2);
                return 0;
            default:
                return box.mail.isEmpty() ? -1 : box.mail.removeFirst();
        }
    }

    int state(int k) {
        return in(k, 0, 2) ? boxes[k].state : -1;
    }

    int pc(int k) {
        return in(k, 0, 2) ? boxes[k].pc : -1;
    }

    int register(int k, int r) {
        return in(k, 0, 2) && in(r, 0, 7) ? boxes[k].r[r] : 0;
    }

    int peek(int address) {
        return in(address, 0, 255) ? memory[address] : 0;
    }

    int output(int k, int j) {
        if (!in(k, 0, 2)) {
            return 0;
        }
        List<Integer> all = boxes[k].outputs;
        return j == -1 ? all.size() : in(j, 0, Math.min(8, all.size()) - 1) ? all.get(all.size() - 1 - j) : 0;
    }

    int call(int k, int j, int what) {
        return in(k, 0, 2) ? told(boxes[k].calls, j, what) : 0;
    }

    private static int told(List<Call> calls, int j, int what) {
        if (j == -1) {
            return calls.size();
        }
        if (!in(j, 0, Math.min(16, calls.size()) - 1)) {
            return 0;
        }
        Call call = calls.get(j);
        return what == 0 ? call.number : what == 1 ? call.first : what == 2 ? call.second : 0;
    }

    int trace(int j, int what) {
        return told(trace, j, what);
    }

    /** What a following holds: an Integer or a Label in each register and word. */
    private final class Following {
        final Object[] r = new Object[5];
        final Object[] words = new Object[16];
        final List<Integer> inputs;
        int taken;
        int brk;
        int place;

        Following(List<Integer> inputs) {
            this.inputs = inputs;
            Arrays.fill(r, 0);
            Arrays.fill(words, 0);
        }

        boolean isLabel(int register) {
            return r[register] instanceof Label;
        }

        int number(int register) {
            return (Integer) r[register];
        }

        boolean takesLabel(Line x) {
            switch (x.op) {
                case 2:
                    return isLabel(x.b) && x.i != 0;
                case 3, 4, 5, 10, 11:
                    return isLabel(x.a) || isLabel(x.b);
                case 6, 7, 8, 9:
                    return isLabel(x.b);
                case 14:
                    return callTakesLabel(x.i);
                default:
                    return false;
            }
        }

        boolean callTakesLabel(int number) {
            if (number == 1 || number == 3) {
                return isLabel(1);
            }
            if (number != 4 && number != 5) {
                return false;
            }
            if (isLabel(1) || isLabel(2)) {
                return true;
            }
            boolean putsOut = number == 4 && prints(number(1), number(2));
            return putsOut && Arrays.stream(words, number(1), number(1) + number(2)).anyMatch(word -> word instanceof Label);
        }

        int step() {
            if (place == lines.size() || lines.get(place).op == 0) {
                return 2;
            }
            Line x = lines.get(place);
            if (takesLabel(x)) {
                return 3;
            }
            if (x.op == 13 && !isLabel(x.a)) {
                return 4;
            }
            if ((x.op == 8 || x.op == 9) && !in(number(x.b) + x.i, 0, 15)) {
                return 5;
            }
            place++;
            switch (x.op) {
                case 1 -> r[x.a] = x.i;
                case 2 -> r[x.a] = isLabel(x.b) ? r[x.b] : (Object) (number(x.b) + x.i);
                case 3 -> r[x.a] = number(x.a) + number(x.b);
                case 4 -> r[x.a] = number(x.a) - number(x.b);
                case 5 -> r[x.a] = number(x.a) ^ number(x.b);
                case 6 -> r[x.a] = number(x.b) & x.i;
                case 7 -> r[x.a] = number(x.b) | x.i;
                case 8 -> r[x.a] = words[number(x.b) + x.i];
                case 9 -> words[number(x.b) + x.i] = r[x.a];
                case 10 -> place = number(x.a) == number(x.b) ? labels.get(x.i) : place;
                case 11 -> place = number(x.a) < number(x.b) ? labels.get(x.i) : place;
                case 12 -> place = labels.get(x.i);
                case 13 -> place = labels.get(((Label) r[x.a]).number);
                case 15 -> r[x.a] = new Label(x.i);
                default -> {
                    return host(x.i);
                }
            }
            return 0;
        }

        int host(int number) {
            trace.add(noted(number, isLabel(1) ? 0 : number(1), isLabel(2) ? 0 : number(2)));
            if (number == 0) {
                return 1;
            }
            int answer = -1;
            if (number == 1) {
                answer = 0;
            } else if (number == 2 && taken < inputs.size()) {
                answer = inputs.get(taken++);
            } else if (number == 3 && in(number(1), 1, 16 - brk)) {
                answer = brk;
                brk += number(1);
            } else if (number == 4 && prints(number(1), number(2))) {
                answer = number(2);
            }
            r[1] = answer;
            return 0;
        }
    }

    int follow(int k, int n) {
        if (!in(n, 0, 300) || !in(k, 0, 2) || rewritten(k) == null) {
            return -1;
        }
        trace = new ArrayList<>();
        Following following = new Following(boxes[k].inputs);
        for (int made = 0; made < n; made++) {
            int reason = following.step();
            if (reason != 0) {
                return reason;
            }
        }
        return 0;
    }
}
