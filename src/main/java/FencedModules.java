import java.util.Arrays;

/**
 * Three sandboxes in one flat memory, each kept in its own part by the form of its code alone.
 * The public methods only hand on to the parts below: source, rewriter, verifier, machine, follower.
 */
public final class FencedModules {
    private static final int MOST_STEPS_OF_A_RUN = 500;
    private static final int MOST_STEPS_OF_A_FOLLOWING = 300;

    private final Source source;
    private final Code code;
    private final Machine machine;
    private final Follower follower;

    public FencedModules() {
        source = new Source();
        code = new Code();
        machine = new Machine();
        follower = new Follower();
    }

    public boolean line(int op, int a, int b, int i) {
        return source.addLine(op, a, b, i);
    }

    public boolean mark(int n) {
        return source.setLabel(n);
    }

    public void clear() {
        source.empty();
        code.empty();
    }

    public int rewrite(int k) {
        if (!Sandbox.exists(k) || !source.canBeRewritten()) {
            return -1;
        }
        Rewriter.translate(source, k, code);
        return code.count();
    }

    public boolean word(int w) {
        return code.add(w);
    }

    public int module(int p) {
        return p == -1 ? code.count() : code.at(p);
    }

    public int verify(int k) {
        return Sandbox.exists(k) ? Verifier.firstUnsafe(code, k) : -2;
    }

    public boolean load(int k) {
        if (!Sandbox.exists(k) || Verifier.firstUnsafe(code, k) != -1) {
            return false;
        }
        machine.install(code, k);
        return true;
    }

    public boolean feed(int k, int v) {
        Sandbox sandbox = machine.sandboxAt(k);
        return sandbox != null && sandbox.state != Sandbox.EMPTY && sandbox.addInput(v);
    }

    public int run(int n) {
        return n < 0 || n > MOST_STEPS_OF_A_RUN ? -1 : machine.advance(n);
    }

    public int state(int k) {
        Sandbox sandbox = machine.sandboxAt(k);
        return sandbox == null ? -1 : sandbox.state;
    }

    public int pc(int k) {
        Sandbox sandbox = machine.sandboxAt(k);
        return sandbox == null ? -1 : sandbox.pc;
    }

    public int register(int k, int r) {
        Sandbox sandbox = machine.sandboxAt(k);
        return sandbox == null || r < 0 || r >= Sandbox.REGISTERS ? 0 : sandbox.registers[r];
    }

    public int peek(int address) {
        return machine.read(address);
    }

    public int output(int k, int j) {
        Sandbox sandbox = machine.sandboxAt(k);
        return sandbox == null ? 0 : sandbox.tellOutput(j);
    }

    public int call(int k, int j, int what) {
        Sandbox sandbox = machine.sandboxAt(k);
        return sandbox == null ? 0 : sandbox.desk.calls.tell(j, what);
    }

    public int follow(int k, int n) {
        Sandbox sandbox = machine.sandboxAt(k);
        if (sandbox == null || n < 0 || n > MOST_STEPS_OF_A_FOLLOWING || !source.canBeRewritten()) {
            return -1;
        }
        return follower.goThrough(source, sandbox, n);
    }

    public int trace(int j, int what) {
        return follower.desk.calls.tell(j, what);
    }

    /** The form of an instruction, and what the plain ones compute. */
    private static final class Words {
        static final int TRAP = 0;
        static final int SET = 1;
        static final int COPY = 2;
        static final int ADD = 3;
        static final int SUB = 4;
        static final int XOR = 5;
        static final int AND = 6;
        static final int OR = 7;
        static final int LOAD = 8;
        static final int STORE = 9;
        static final int BEQ = 10;
        static final int BLT = 11;
        static final int GO = 12;
        static final int JUMP = 13;
        static final int HOST = 14;
        /** Only lines have it; as a word it is no instruction. */
        static final int LABEL = 15;

        static final int LEAST_I = -(1 << 21);
        static final int MOST_I = (1 << 21) - 1;

        static int opOf(int w) {
            return w & 15;
        }

        static int aOf(int w) {
            return w >> 4 & 7;
        }

        static int bOf(int w) {
            return w >> 7 & 7;
        }

        static int iOf(int w) {
            return w >> 10;
        }

        static int join(int op, int a, int b, int i) {
            return i << 10 | b << 7 | a << 4 | op;
        }

        /** What SET to OR put into ra, from the values of ra and rb before. */
        static int result(int op, int ra, int rb, int i) {
            switch (op) {
                case SET:
                    return i;
                case COPY:
                    return rb + i;
                case ADD:
                    return ra + rb;
                case SUB:
                    return ra - rb;
                case XOR:
                    return ra ^ rb;
                case AND:
                    return rb & i;
                case OR:
                    return rb | i;
                default:
                    return ra;
            }
        }

        static boolean branches(int op, int ra, int rb) {
            return op == GO || op == BEQ && ra == rb || op == BLT && ra < rb;
        }
    }

    /** The module: words that are rewritten, added by hand, verified and loaded. */
    private static final class Code {
        /** One less than a sandbox has code words, so that a TRAP always lies behind. */
        static final int MOST_WORDS = 31;

        private final int[] words = new int[MOST_WORDS];
        private int count;

        void empty() {
            count = 0;
        }

        boolean add(int w) {
            if (count >= MOST_WORDS) {
                return false;
            }
            words[count] = w;
            count++;
            return true;
        }

        int count() {
            return count;
        }

        int at(int p) {
            return p >= 0 && p < count ? words[p] : 0;
        }
    }

    /** Lines and labels, before they are words. */
    private static final class Source {
        static final int MOST_LINES = 24;
        static final int LABELS = 8;
        /** Registers from this one on belong to the rewriter. */
        static final int FREE_REGISTERS = 5;
        private static final int NOT_SET = -1;

        private final int[] ops = new int[MOST_LINES];
        private final int[] as = new int[MOST_LINES];
        private final int[] bs = new int[MOST_LINES];
        private final int[] is = new int[MOST_LINES];
        private final int[] places = new int[LABELS];
        private int count;

        Source() {
            Arrays.fill(places, NOT_SET);
        }

        void empty() {
            count = 0;
            Arrays.fill(places, NOT_SET);
        }

        boolean addLine(int op, int a, int b, int i) {
            if (op < 0 || op > 15 || a < 0 || a > 7 || b < 0 || b > 7) {
                return false;
            }
            if (i < Words.LEAST_I || i > Words.MOST_I || count >= MOST_LINES) {
                return false;
            }
            ops[count] = op;
            as[count] = a;
            bs[count] = b;
            is[count] = i;
            count++;
            return true;
        }

        boolean setLabel(int n) {
            if (n < 0 || n >= LABELS || places[n] != NOT_SET) {
                return false;
            }
            places[n] = count;
            return true;
        }

        int count() {
            return count;
        }

        boolean hasLine(int p) {
            return p >= 0 && p < count;
        }

        /** Behind the last line all is TRAP, as it is in the module. */
        int opAt(int p) {
            return hasLine(p) ? ops[p] : Words.TRAP;
        }

        int aAt(int p) {
            return hasLine(p) ? as[p] : 0;
        }

        int bAt(int p) {
            return hasLine(p) ? bs[p] : 0;
        }

        int iAt(int p) {
            return hasLine(p) ? is[p] : 0;
        }

        boolean isLabelSet(int n) {
            return n >= 0 && n < LABELS && places[n] != NOT_SET;
        }

        /** A label that is not set goes behind the last line, where nothing is done. */
        int placeOf(int n) {
            return isLabelSet(n) ? places[n] : count;
        }

        /** It is the same for all sandboxes: their addresses do not change what a line needs. */
        boolean canBeRewritten() {
            for (int p = 0; p < count; p++) {
                if (!keepsToFreeRegisters(p) || !namesWhatIsThere(p)) {
                    return false;
                }
            }
            return wordsBefore(count) + 1 <= Code.MOST_WORDS;
        }

        /** How many words the lines before place make: where the line at place begins. */
        int wordsBefore(int place) {
            int words = 0;
            for (int p = 0; p < place && p < count; p++) {
                words += wordsOf(ops[p]);
            }
            return words;
        }

        private static int wordsOf(int op) {
            switch (op) {
                case Words.LOAD:
                case Words.STORE:
                    return 4;
                case Words.JUMP:
                    return 3;
                default:
                    return 1;
            }
        }

        private boolean keepsToFreeRegisters(int p) {
            int op = opAt(p);
            boolean usesBoth = op >= Words.COPY && op <= Words.BLT;
            boolean usesA = usesBoth || op == Words.SET || op == Words.JUMP || op == Words.LABEL;
            return !(usesA && aAt(p) >= FREE_REGISTERS) && !(usesBoth && bAt(p) >= FREE_REGISTERS);
        }

        private boolean namesWhatIsThere(int p) {
            switch (opAt(p)) {
                case Words.BEQ:
                case Words.BLT:
                case Words.GO:
                case Words.LABEL:
                    return isLabelSet(iAt(p));
                case Words.HOST:
                    return Desk.answers(iAt(p));
                default:
                    return true;
            }
        }
    }

    /** Makes a module out of a source that can be rewritten. */
    private static final class Rewriter {
        /** Holds an address until it is fenced into r6. */
        private static final int SCRATCH = 5;

        static void translate(Source source, int k, Code code) {
            code.empty();
            for (int p = 0; p < source.count(); p++) {
                translateLine(source, p, k, code);
            }
            code.add(Words.join(Words.TRAP, 0, 0, 0));
        }

        private static void translateLine(Source source, int p, int k, Code code) {
            int op = source.opAt(p);
            int a = source.aAt(p);
            int b = source.bAt(p);
            int i = source.iAt(p);
            switch (op) {
                case Words.LOAD:
                case Words.STORE:
                    code.add(Words.join(Words.COPY, SCRATCH, b, i));
                    addFence(code, Sandbox.DATA_REGISTER, SCRATCH, Sandbox.DATA_WORDS - 1, Sandbox.dataStart(k));
                    code.add(Words.join(op, a, Sandbox.DATA_REGISTER, 0));
                    break;
                case Words.JUMP:
                    addFence(code, Sandbox.CODE_REGISTER, a, Sandbox.CODE_WORDS - 1, Sandbox.codeStart(k));
                    code.add(Words.join(op, Sandbox.CODE_REGISTER, 0, 0));
                    break;
                case Words.LABEL:
                    code.add(Words.join(Words.SET, a, 0, Sandbox.codeStart(k) + targetOf(source, i)));
                    break;
                case Words.BEQ:
                case Words.BLT:
                    code.add(Words.join(op, a, b, distance(source, i, code)));
                    break;
                case Words.GO:
                    code.add(Words.join(op, 0, 0, distance(source, i, code)));
                    break;
                default:
                    code.add(withoutUnusedFields(op, a, b, i));
                    break;
            }
        }

        private static void addFence(Code code, int fenced, int from, int mask, int start) {
            code.add(Words.join(Words.AND, fenced, from, mask));
            code.add(Words.join(Words.OR, fenced, fenced, start));
        }

        private static int targetOf(Source source, int label) {
            return source.wordsBefore(source.placeOf(label));
        }

        /** From behind the word that is added next to the label. */
        private static int distance(Source source, int label, Code code) {
            return targetOf(source, label) - (code.count() + 1);
        }

        private static int withoutUnusedFields(int op, int a, int b, int i) {
            switch (op) {
                case Words.SET:
                    return Words.join(op, a, 0, i);
                case Words.COPY:
                case Words.AND:
                case Words.OR:
                    return Words.join(op, a, b, i);
                case Words.ADD:
                case Words.SUB:
                case Words.XOR:
                    return Words.join(op, a, b, 0);
                case Words.HOST:
                    return Words.join(op, 0, 0, i);
                default:
                    return Words.join(Words.TRAP, 0, 0, 0);
            }
        }
    }

    /** Tells words that keep a sandbox in its part from all others, whoever made them. */
    private static final class Verifier {
        static int firstUnsafe(Code code, int k) {
            for (int p = 0; p < code.count(); p++) {
                if (!isSafe(code, p) || !keepsFences(code, p, k)) {
                    return p;
                }
            }
            return -1;
        }

        private static boolean isSafe(Code code, int p) {
            int w = code.at(p);
            int i = Words.iOf(w);
            switch (Words.opOf(w)) {
                case Words.LOAD:
                case Words.STORE:
                    return Words.bOf(w) == Sandbox.DATA_REGISTER && i == 0;
                case Words.BEQ:
                case Words.BLT:
                case Words.GO:
                    return p + 1 + i >= 0 && p + 1 + i < code.count();
                case Words.JUMP:
                    return Words.aOf(w) == Sandbox.CODE_REGISTER;
                case Words.HOST:
                    return Desk.answers(i);
                case Words.LABEL:
                    return false;
                default:
                    return true;
            }
        }

        private static boolean keepsFences(Code code, int p, int k) {
            int op = Words.opOf(code.at(p));
            int a = Words.aOf(code.at(p));
            if (op < Words.SET || op > Words.LOAD) {
                return true;
            }
            if (a == Sandbox.DATA_REGISTER) {
                return isFenced(code, p, Sandbox.DATA_WORDS - 1, Sandbox.dataStart(k));
            }
            if (a == Sandbox.CODE_REGISTER) {
                return isFenced(code, p, Sandbox.CODE_WORDS - 1, Sandbox.codeStart(k));
            }
            return true;
        }

        /** The fence's second word has all fields given, so it is one number. A word that is not there is 0, never that. */
        private static boolean isFenced(Code code, int p, int mask, int start) {
            int w = code.at(p);
            int a = Words.aOf(w);
            int second = Words.join(Words.OR, a, a, start);
            if (w == second) {
                return true;
            }
            return Words.opOf(w) == Words.AND && Words.iOf(w) == mask && code.at(p + 1) == second;
        }
    }

    /** Host calls in the order in which they were made; all are counted, the first ones kept. */
    private static final class CallList {
        private static final int KEPT = 16;

        private final int[] numbers = new int[KEPT];
        private final int[] firsts = new int[KEPT];
        private final int[] seconds = new int[KEPT];
        private int count;

        void empty() {
            count = 0;
        }

        void note(int number, int first, int second) {
            if (count >= 0 && count < KEPT) {
                numbers[count] = number;
                firsts[count] = first;
                seconds[count] = second;
            }
            count++;
        }

        int tell(int j, int what) {
            if (j == -1) {
                return count;
            }
            if (j < 0 || j >= KEPT || j >= count) {
                return 0;
            }
            switch (what) {
                case 0:
                    return numbers[j];
                case 1:
                    return firsts[j];
                case 2:
                    return seconds[j];
                default:
                    return 0;
            }
        }
    }

    /** What the host keeps for one caller, be it a sandbox or a following. */
    private static final class Desk {
        static final int EXIT = 0;
        static final int OUT = 1;
        static final int IN = 2;
        static final int ALLOC = 3;
        static final int PRINT = 4;
        static final int SEND = 5;
        static final int RECEIVE = 6;
        static final int REFUSED = -1;

        final CallList calls = new CallList();
        private int allocated;
        private int taken;

        static boolean answers(int number) {
            return number >= EXIT && number <= RECEIVE;
        }

        static int argumentsOf(int number) {
            switch (number) {
                case OUT:
                case ALLOC:
                    return 1;
                case PRINT:
                case SEND:
                    return 2;
                default:
                    return 0;
            }
        }

        /** Without a sum, which could wrap. */
        static boolean canPrint(int start, int length) {
            return start >= 0 && start <= Sandbox.DATA_WORDS && length >= 0 && length <= Sandbox.DATA_WORDS - start;
        }

        void open() {
            calls.empty();
            allocated = 0;
            taken = 0;
        }

        void note(int number, int r1, int r2) {
            int arguments = argumentsOf(number);
            calls.note(number, arguments >= 1 ? r1 : 0, arguments >= 2 ? r2 : 0);
        }

        int allocate(int size) {
            if (size < 1 || size > Sandbox.DATA_WORDS - allocated) {
                return REFUSED;
            }
            int start = allocated;
            allocated += size;
            return start;
        }

        /** The inputs stay with the sandbox, so that a following can take them once more. */
        int takeInput(Sandbox sandbox) {
            if (taken < 0 || taken >= sandbox.inputCount) {
                return REFUSED;
            }
            int input = sandbox.inputs[taken];
            taken++;
            return input;
        }
    }

    /** One program's own things, but for its words in the memory. */
    private static final class Sandbox {
        static final int HOW_MANY = 3;
        static final int REGISTERS = 8;
        static final int DATA_REGISTER = 6;
        static final int CODE_REGISTER = 7;
        static final int DATA_WORDS = 16;
        static final int CODE_WORDS = 32;

        static final int EMPTY = 0;
        static final int RUNNING = 1;
        static final int OVER = 2;
        static final int TRAPPED = 3;

        private static final int FIRST_CODE = 64;
        private static final int MOST_INPUTS = 12;
        private static final int MOST_MAIL = 4;
        /** A power of two: places in the ring are found with a mask. */
        private static final int KEPT_OUTPUTS = 8;

        final int number;
        final int[] registers = new int[REGISTERS];
        final int[] inputs = new int[MOST_INPUTS];
        final Desk desk = new Desk();
        int inputCount;
        int pc;
        int state;
        private final int[] mailbox = new int[MOST_MAIL];
        private final int[] outputs = new int[KEPT_OUTPUTS];
        private int mailCount;
        private int outputCount;

        Sandbox(int k) {
            number = k;
        }

        static boolean exists(int k) {
            return k >= 0 && k < HOW_MANY;
        }

        static int dataStart(int k) {
            return DATA_WORDS * k;
        }

        static int codeStart(int k) {
            return FIRST_CODE + CODE_WORDS * k;
        }

        void start() {
            Arrays.fill(registers, 0);
            registers[DATA_REGISTER] = dataStart(number);
            registers[CODE_REGISTER] = codeStart(number);
            pc = codeStart(number);
            state = RUNNING;
            inputCount = 0;
            mailCount = 0;
            outputCount = 0;
            desk.open();
        }

        void stop(int newState, int at) {
            state = newState;
            pc = at;
        }

        boolean addInput(int v) {
            if (inputCount >= MOST_INPUTS) {
                return false;
            }
            inputs[inputCount] = v;
            inputCount++;
            return true;
        }

        boolean addMail(int v) {
            if (mailCount >= MOST_MAIL) {
                return false;
            }
            mailbox[mailCount] = v;
            mailCount++;
            return true;
        }

        int takeMail() {
            if (mailCount <= 0) {
                return Desk.REFUSED;
            }
            int oldest = mailbox[0];
            mailCount--;
            for (int m = 0; m < mailCount; m++) {
                mailbox[m] = mailbox[m + 1];
            }
            return oldest;
        }

        void putOut(int v) {
            outputs[outputCount & (KEPT_OUTPUTS - 1)] = v;
            outputCount++;
        }

        int tellOutput(int j) {
            if (j == -1) {
                return outputCount;
            }
            if (j < 0 || j >= KEPT_OUTPUTS || j >= outputCount) {
                return 0;
            }
            return outputs[(outputCount - 1 - j) & (KEPT_OUTPUTS - 1)];
        }
    }

    /** The memory, the sandboxes in it, and whose turn it is. */
    private static final class Machine {
        private static final int MEMORY_WORDS = 256;
        private static final int STEPS_OF_A_TURN = 3;

        private final int[] memory = new int[MEMORY_WORDS];
        private final Sandbox[] sandboxes = new Sandbox[Sandbox.HOW_MANY];
        private int turn;
        private int stepsInTurn;

        Machine() {
            for (int k = 0; k < Sandbox.HOW_MANY; k++) {
                sandboxes[k] = new Sandbox(k);
            }
        }

        Sandbox sandboxAt(int k) {
            return Sandbox.exists(k) ? sandboxes[k] : null;
        }

        int read(int address) {
            return address >= 0 && address < MEMORY_WORDS ? memory[address] : 0;
        }

        private void write(int address, int v) {
            if (address >= 0 && address < MEMORY_WORDS) {
                memory[address] = v;
            }
        }

        void install(Code code, int k) {
            Sandbox sandbox = sandboxAt(k);
            if (sandbox == null) {
                return;
            }
            for (int p = 0; p < Sandbox.CODE_WORDS; p++) {
                write(Sandbox.codeStart(k) + p, code.at(p));
            }
            for (int p = 0; p < Sandbox.DATA_WORDS; p++) {
                write(Sandbox.dataStart(k) + p, 0);
            }
            sandbox.start();
            if (turn == k) {
                stepsInTurn = 0;
            }
        }

        int advance(int n) {
            for (int made = 0; made < n; made++) {
                Sandbox sandbox = nextToStep();
                if (sandbox == null) {
                    return made;
                }
                execute(sandbox);
                countStep(sandbox);
            }
            return n;
        }

        /** Moves the turn only if there is a sandbox to move it to. */
        private Sandbox nextToStep() {
            int k = turn;
            for (int tried = 0; tried < Sandbox.HOW_MANY; tried++) {
                Sandbox sandbox = sandboxAt(k);
                if (sandbox != null && sandbox.state == Sandbox.RUNNING) {
                    if (k != turn) {
                        giveTurn(k);
                    }
                    return sandbox;
                }
                k = behind(k);
            }
            return null;
        }

        private void countStep(Sandbox sandbox) {
            stepsInTurn++;
            if (stepsInTurn >= STEPS_OF_A_TURN || sandbox.state != Sandbox.RUNNING) {
                giveTurn(behind(turn));
            }
        }

        private void giveTurn(int k) {
            turn = k;
            stepsInTurn = 0;
        }

        private static int behind(int k) {
            return k + 1 < Sandbox.HOW_MANY ? k + 1 : 0;
        }

        private void execute(Sandbox sandbox) {
            int here = sandbox.pc;
            int w = read(here);
            int op = Words.opOf(w);
            int a = Words.aOf(w);
            int b = Words.bOf(w);
            int i = Words.iOf(w);
            int[] r = sandbox.registers;
            sandbox.pc = here + 1;
            switch (op) {
                case Words.LOAD:
                    r[a] = read(r[b] + i);
                    break;
                case Words.STORE:
                    write(r[b] + i, r[a]);
                    break;
                case Words.BEQ:
                case Words.BLT:
                case Words.GO:
                    if (Words.branches(op, r[a], r[b])) {
                        sandbox.pc = here + 1 + i;
                    }
                    break;
                case Words.JUMP:
                    sandbox.pc = r[a];
                    break;
                case Words.HOST:
                    answerCall(sandbox, i, here);
                    break;
                case Words.TRAP:
                case Words.LABEL:
                    sandbox.stop(Sandbox.TRAPPED, here);
                    break;
                default:
                    r[a] = Words.result(op, r[a], r[b], i);
                    break;
            }
        }

        private void answerCall(Sandbox sandbox, int number, int here) {
            int[] r = sandbox.registers;
            sandbox.desk.note(number, r[1], r[2]);
            switch (number) {
                case Desk.EXIT:
                    sandbox.stop(Sandbox.OVER, here);
                    break;
                case Desk.OUT:
                    sandbox.putOut(r[1]);
                    r[1] = 0;
                    break;
                case Desk.IN:
                    r[1] = sandbox.desk.takeInput(sandbox);
                    break;
                case Desk.ALLOC:
                    r[1] = sandbox.desk.allocate(r[1]);
                    break;
                case Desk.PRINT:
                    r[1] = print(sandbox, r[1], r[2]);
                    break;
                case Desk.SEND:
                    r[1] = send(r[1], r[2]);
                    break;
                case Desk.RECEIVE:
                    r[1] = sandbox.takeMail();
                    break;
                default:
                    break;
            }
        }

        private int print(Sandbox sandbox, int start, int length) {
            if (!Desk.canPrint(start, length)) {
                return Desk.REFUSED;
            }
            for (int p = 0; p < length; p++) {
                sandbox.putOut(read(Sandbox.dataStart(sandbox.number) + start + p));
            }
            return length;
        }

        private int send(int k, int v) {
            Sandbox to = sandboxAt(k);
            return to != null && to.state != Sandbox.EMPTY && to.addMail(v) ? 0 : Desk.REFUSED;
        }
    }

    /** Goes through a source line by line, and knows labels from ints. */
    private static final class Follower {
        private static final int GOES_ON = 0;
        private static final int EXITED = 1;
        private static final int STOPPED = 2;
        private static final int LABEL_TAKEN = 3;
        private static final int JUMP_TO_INT = 4;
        private static final int NO_ADDRESS = 5;

        private static final int AN_INT = -1;
        /** The registers are the first cells, the words the ones behind. */
        private static final int FIRST_WORD = Source.FREE_REGISTERS;
        private static final int CELLS = FIRST_WORD + Sandbox.DATA_WORDS;

        final Desk desk = new Desk();
        private final int[] ints = new int[CELLS];
        /** The label in a cell, whose int then counts for nothing; or AN_INT. */
        private final int[] labels = new int[CELLS];
        private int place;

        int goThrough(Source source, Sandbox sandbox, int n) {
            desk.open();
            Arrays.fill(ints, 0);
            Arrays.fill(labels, AN_INT);
            place = 0;
            int reason = GOES_ON;
            for (int made = 0; made < n && reason == GOES_ON; made++) {
                reason = reasonToEnd(source);
                if (reason == GOES_ON) {
                    reason = doLine(source, sandbox);
                }
            }
            return reason;
        }

        /** Looked for before the line is done: a step that ends does nothing else. */
        private int reasonToEnd(Source source) {
            int op = source.opAt(place);
            int a = source.aAt(place);
            int b = source.bAt(place);
            int i = source.iAt(place);
            if (op == Words.TRAP) {
                return STOPPED;
            }
            if (takesLabel(op, a, b, i)) {
                return LABEL_TAKEN;
            }
            if (op == Words.JUMP && !holdsLabel(a)) {
                return JUMP_TO_INT;
            }
            if ((op == Words.LOAD || op == Words.STORE) && !isAddress(ints[b] + i)) {
                return NO_ADDRESS;
            }
            return GOES_ON;
        }

        private boolean takesLabel(int op, int a, int b, int i) {
            switch (op) {
                case Words.COPY:
                    return holdsLabel(b) && i != 0;
                case Words.ADD:
                case Words.SUB:
                case Words.XOR:
                case Words.BEQ:
                case Words.BLT:
                    return holdsLabel(a) || holdsLabel(b);
                case Words.AND:
                case Words.OR:
                case Words.LOAD:
                case Words.STORE:
                    return holdsLabel(b);
                case Words.HOST:
                    return callTakesLabel(i);
                default:
                    return false;
            }
        }

        private boolean callTakesLabel(int number) {
            int arguments = Desk.argumentsOf(number);
            if (arguments >= 1 && holdsLabel(1) || arguments >= 2 && holdsLabel(2)) {
                return true;
            }
            return number == Desk.PRINT && wouldPrintLabel(ints[1], ints[2]);
        }

        private boolean wouldPrintLabel(int start, int length) {
            if (!Desk.canPrint(start, length)) {
                return false;
            }
            for (int p = 0; p < length; p++) {
                if (holdsLabel(FIRST_WORD + start + p)) {
                    return true;
                }
            }
            return false;
        }

        private boolean holdsLabel(int cell) {
            return labels[cell] != AN_INT;
        }

        private static boolean isAddress(int address) {
            return address >= 0 && address < Sandbox.DATA_WORDS;
        }

        private int doLine(Source source, Sandbox sandbox) {
            int op = source.opAt(place);
            int a = source.aAt(place);
            int b = source.bAt(place);
            int i = source.iAt(place);
            int next = place + 1;
            int reason = GOES_ON;
            switch (op) {
                case Words.LOAD:
                    copyCell(FIRST_WORD + ints[b] + i, a);
                    break;
                case Words.STORE:
                    copyCell(a, FIRST_WORD + ints[b] + i);
                    break;
                case Words.BEQ:
                case Words.BLT:
                case Words.GO:
                    if (Words.branches(op, ints[a], ints[b])) {
                        next = source.placeOf(i);
                    }
                    break;
                case Words.JUMP:
                    next = source.placeOf(labels[a]);
                    break;
                case Words.HOST:
                    reason = answerCall(sandbox, i);
                    break;
                case Words.LABEL:
                    labels[a] = i;
                    break;
                default:
                    compute(op, a, b, i);
                    break;
            }
            place = next;
            return reason;
        }

        private void copyCell(int from, int to) {
            ints[to] = ints[from];
            labels[to] = labels[from];
        }

        private void putInt(int cell, int v) {
            ints[cell] = v;
            labels[cell] = AN_INT;
        }

        private void compute(int op, int a, int b, int i) {
            if (op == Words.COPY && holdsLabel(b)) {
                copyCell(b, a);
            } else {
                putInt(a, Words.result(op, ints[a], ints[b], i));
            }
        }

        private int answerCall(Sandbox sandbox, int number) {
            desk.note(number, ints[1], ints[2]);
            switch (number) {
                case Desk.EXIT:
                    return EXITED;
                case Desk.OUT:
                    putInt(1, 0);
                    break;
                case Desk.IN:
                    putInt(1, desk.takeInput(sandbox));
                    break;
                case Desk.ALLOC:
                    putInt(1, desk.allocate(ints[1]));
                    break;
                case Desk.PRINT:
                    putInt(1, Desk.canPrint(ints[1], ints[2]) ? ints[2] : Desk.REFUSED);
                    break;
                default:
                    putInt(1, Desk.REFUSED);
                    break;
            }
            return GOES_ON;
        }
    }
}
