/**
 * Laws of small programs over data that may be unfinished: texts tell types, functions by rules and laws;
 * terms are worked out, laws tried on small values and proved row by row, or by a bounded search.
 *
 * All room is made in the constructors and used again, so that no call makes an object.
 */
public final class EquationProofs {
    public static final int NONE = -1;
    public static final int UNKNOWN = -101, OUTSIDE = -102, STATE = -103, WRONG = -104, ROOM = -105;

    private static final int MOST_BYTES = 1000;
    private static final int FEED_BYTES = 20;
    private static final int NAME_BYTES = 6;
    private static final int FAULT_BASE = -1000;

    private static final int MOST_TYPES = 6;
    private static final int MOST_CONSTRUCTORS = 16;
    private static final int MOST_FUNCTIONS = 16;
    private static final int MOST_RULES = 40;
    private static final int MOST_LAWS = 16;
    private static final int CONSTRUCTOR_ARGUMENTS = 3;
    private static final int FUNCTION_ARGUMENTS = 4;
    private static final int LAW_VARIABLES = 6;
    private static final int TOLD_NAMES = 40;
    private static final int MOST_DEPTH = 10;

    private static final int WORK_NAMES = 120;
    private static final int WORK_STEPS = 2000;
    private static final int TEST_STEPS = 300;
    private static final int TEST_ROWS = 2000;
    private static final int TEST_SIZE = 6;

    private static final int GOAL_NAMES = 60;
    private static final int MOST_GOALS = 12;
    private static final int MOST_HYPOTHESES = 8;
    private static final int MOST_VARIABLES = 60;
    private static final int MOST_SPLITS = 4;
    private static final int SEARCH_ROWS = 500;

    private static final int FINITE = 1;
    private static final int FULL = 2;

    private final Tape tape;
    private final Program program;
    private final Reader reader;
    private final Printer printer;
    private final Rewriter rewriter;
    private final Trial trial;
    private final Prover prover;
    private final Term worked;
    private int stepsTaken;

    public EquationProofs() {
        tape = new Tape();
        program = new Program();
        reader = new Reader(tape, program);
        printer = new Printer(program);
        rewriter = new Rewriter(program);
        trial = new Trial(program, rewriter);
        prover = new Prover(program, rewriter);
        worked = new Term(WORK_NAMES);
    }

    // ---- the tape, texts

    public int feed(int a, int b, int c, int d, int e) throws IllegalStateException {
        if (tape.length > MOST_BYTES - FEED_BYTES) {
            throw new IllegalStateException("the tape has no room for twenty bytes more");
        }
        tape.putNumber(a);
        tape.putNumber(b);
        tape.putNumber(c);
        tape.putNumber(d);
        tape.putNumber(e);
        return tape.length;
    }

    public void end(int n) throws IllegalArgumentException {
        if (n < 0 || n > tape.length) {
            throw new IllegalArgumentException("the tape has not so many bytes");
        }
        tape.length = n;
    }

    public int read() {
        int decls = reader.readText();
        tape.length = 0;
        if (decls >= 0) {
            prover.proof.forget();
        }
        return decls;
    }

    public int fault() {
        return reader.faultKind;
    }

    public int count(int what) {
        Proof proof = prover.proof;
        switch (what) {
            case 0:
                return program.types.count;
            case 1:
                return program.constructors.count;
            case 2:
                return program.functions.count;
            case 3:
                return program.ruleCount;
            case 4:
                return program.lawCount;
            case 5:
                return proof.open;
            case 6:
                return proof.rows;
            case 7:
                return proof.open > 0 ? proof.goals[0].hypotheses : 0;
            default:
                return OUTSIDE;
        }
    }

    public int about(int law, int what) {
        if (!program.hasLaw(law)) {
            return UNKNOWN;
        }
        Equation told = program.laws[law];
        switch (what) {
            case 0:
                return told.proved;
            case 1:
                return told.variables;
            case 2:
                return told.left.size;
            case 3:
                return told.right.size;
            default:
                return OUTSIDE;
        }
    }

    // ---- working out

    public int work(int steps) {
        boolean outside = steps < 0 || steps > WORK_STEPS;
        int refusal = outside ? OUTSIDE : reader.readClosedTerm(worked);
        tape.length = 0;
        if (refusal < 0) {
            return refusal;
        }
        int answer = rewriter.workOut(worked, steps);
        stepsTaken = rewriter.taken;
        printer.print(worked, 0);
        return answer;
    }

    public int steps() {
        return stepsTaken;
    }

    public int test(int law, int size, boolean all) {
        if (!program.hasLaw(law)) {
            return UNKNOWN;
        }
        if (size < 1 || size > TEST_SIZE) {
            return OUTSIDE;
        }
        return trial.tryLaw(program.laws[law], size, all);
    }

    public int told(int variable) {
        if (trial.toldCount < 0) {
            return STATE;
        }
        if (variable < 0 || variable >= trial.toldCount) {
            return UNKNOWN;
        }
        return printer.print(trial.toldValues[variable], 0);
    }

    // ---- proofs

    public int begin(int law, boolean full) {
        if (!program.hasLaw(law)) {
            return UNKNOWN;
        }
        prover.proof.start(program.laws[law], law, full);
        return prover.proof.open;
    }

    public int unfold(int side, int place) {
        int refusal = refusalAt(side, place);
        return refusal < 0 ? refusal : prover.unfoldAt(side, prover.positionOf(side, place));
    }

    public int law(int law, boolean back, int side, int place) {
        if (!program.hasLaw(law)) {
            return UNKNOWN;
        }
        int refusal = refusalAt(side, place);
        if (refusal < 0) {
            return refusal;
        }
        if (!prover.chooseLaw(law, back)) {
            return WRONG;
        }
        return prover.rewriteAt(side, prover.positionOf(side, place));
    }

    public int hypothesis(int k, boolean back, int side, int place) {
        int refusal = refusalAt(side, place);
        if (refusal < 0) {
            return refusal;
        }
        if (!prover.chooseHypothesis(k, back)) {
            return WRONG;
        }
        return prover.rewriteAt(side, prover.positionOf(side, place));
    }

    public int induction(int v) {
        return prover.proof.open > 0 ? prover.inductOver(v) : STATE;
    }

    public int cases(int side, int place) {
        int refusal = refusalAt(side, place);
        return refusal < 0 ? refusal : prover.splitAt(side, prover.positionOf(side, place));
    }

    public int same() {
        return prover.proof.open > 0 ? prover.dropSame() : STATE;
    }

    public int parts() {
        return prover.proof.open > 0 ? prover.takeApart() : STATE;
    }

    public int search(int rows) {
        if (rows < 1 || rows > SEARCH_ROWS) {
            return OUTSIDE;
        }
        if (prover.proof.open == 0) {
            return STATE;
        }
        prover.kept.copy(prover.proof);
        int done = 0;
        while (done < rows && prover.proof.open > 0 && prover.nextRow()) {
            done++;
        }
        if (prover.proof.open > 0) {
            prover.proof.copy(prover.kept);
            return 0;
        }
        return done;
    }

    // ---- printing

    public int show(int k, int side) {
        Proof proof = prover.proof;
        if (proof.open == 0) {
            return STATE;
        }
        if (k < 0 || k >= proof.open || side < 0 || side > 1) {
            return OUTSIDE;
        }
        return printer.print(proof.goals[k].terms[side], 0);
    }

    public int showHypothesis(int k, int side) {
        if (prover.proof.open == 0) {
            return STATE;
        }
        Goal goal = prover.proof.goals[0];
        if (k < 0 || k >= goal.hypotheses || side < 0 || side > 1) {
            return OUTSIDE;
        }
        return printer.print(goal.terms[2 + 2 * k + side], goal.free[k]);
    }

    public int showLaw(int law, int side) {
        if (!program.hasLaw(law)) {
            return UNKNOWN;
        }
        if (side < 0 || side > 1) {
            return OUTSIDE;
        }
        Equation told = program.laws[law];
        return printer.print(side == 0 ? told.left : told.right, 0);
    }

    public int printed(int i) {
        return i >= 0 && i < printer.length ? printer.bytes[i] : NONE;
    }

    /** What a row about a place is refused with ahead of all that the goal itself says: 0 for nothing. */
    private int refusalAt(int side, int place) {
        if (side < 0 || side > 1 || place < 0) {
            return OUTSIDE;
        }
        return prover.proof.open > 0 ? 0 : STATE;
    }

    /** The bytes that were fed, and the tokens that they make. */
    private static final class Tape {
        static final int END = 0, BAD = 1, SMALL = 2, GREAT = 3, DATA = 4, FUN = 5, RULE = 6, LAW = 7;
        static final long WORD_DATA = 0x64617461L, WORD_FUN = 0x66756eL, WORD_RULE = 0x72756c65L;
        static final long WORD_LAW = 0x6c6177L;

        final int[] bytes = new int[MOST_BYTES];
        int length;
        // One place more than there can be tokens: the end is a token, too.
        final int[] tokens = new int[MOST_BYTES + 1];
        final int[] starts = new int[MOST_BYTES + 1];
        final long[] names = new long[MOST_BYTES + 1];
        int tokenCount;

        void putNumber(int number) {
            for (int shift = 24; shift >= 0; shift -= 8) {
                if (length < MOST_BYTES) {
                    bytes[length] = number >>> shift & 255;
                    length++;
                }
            }
        }

        /** Cuts the tape into tokens; what stands behind a bad one is never looked at. */
        void cut() {
            tokenCount = 0;
            boolean bad = false;
            int at = 0;
            for (int turn = 0; turn < length && at < length && !bad; turn++) {
                int b = bytes[at];
                int stop = isLetter(b) ? behindName(at) : at + 1;
                if (b != ' ' && b != '\n') {
                    long name = nameOf(at, stop);
                    int token = isLetter(b) ? tokenOfName(b, stop - at, name) : tokenOfSign(b);
                    bad = token == BAD;
                    addToken(token, at, name);
                }
                at = stop;
            }
            addToken(END, length, 0);
        }

        private void addToken(int token, int start, long name) {
            if (tokenCount < tokens.length) {
                tokens[tokenCount] = token;
                starts[tokenCount] = start;
                names[tokenCount] = name;
                tokenCount++;
            }
        }

        private int behindName(int from) {
            int at = from;
            while (at < length && (isLetter(bytes[at]) || bytes[at] >= '0' && bytes[at] <= '9')) {
                at++;
            }
            return at;
        }

        /** The bytes of a name as one number: it fits, as names have few bytes. */
        private long nameOf(int start, int stop) {
            long name = 0;
            for (int at = start; at < stop && at < start + NAME_BYTES; at++) {
                name = name << 8 | bytes[at];
            }
            return name;
        }

        private static int tokenOfName(int first, int size, long name) {
            if (size > NAME_BYTES) {
                return BAD;
            }
            if (first <= 'Z') {
                return GREAT;
            }
            if (name == WORD_DATA) {
                return DATA;
            }
            if (name == WORD_FUN) {
                return FUN;
            }
            if (name == WORD_RULE) {
                return RULE;
            }
            return name == WORD_LAW ? LAW : SMALL;
        }

        private static int tokenOfSign(int b) {
            switch (b) {
                case '=':
                case '|':
                case ':':
                case ';':
                case '>':
                case '(':
                case ')':
                case '_':
                    return b;
                default:
                    return BAD;
            }
        }

        private static boolean isLetter(int b) {
            return b >= 'a' && b <= 'z' || b >= 'A' && b <= 'Z';
        }
    }

    /** The names of one sort, each with its type and its arguments' types. */
    private static final class Symbols {
        final long[] names;
        final int[] types;
        final int[] arities;
        final int[] arguments;
        int count;

        Symbols(int room) {
            int size = Math.max(room, 0);
            names = new long[size];
            types = new int[size];
            arities = new int[size];
            arguments = new int[size * FUNCTION_ARGUMENTS];
        }

        int find(long name) {
            for (int i = 0; i < count && i < names.length; i++) {
                if (names[i] == name) {
                    return i;
                }
            }
            return -1;
        }

        boolean isFull() {
            return count >= names.length;
        }

        void add(long name, int type) {
            if (count < names.length) {
                names[count] = name;
                types[count] = type;
                arities[count] = 0;
                count++;
            }
        }

        /** One argument more of the newest name. */
        void addArgument(int type) {
            int last = count - 1;
            if (last >= 0 && arities[last] < FUNCTION_ARGUMENTS) {
                arguments[last * FUNCTION_ARGUMENTS + arities[last]] = type;
                arities[last]++;
            }
        }

        int argument(int symbol, int k) {
            int at = symbol * FUNCTION_ARGUMENTS + k;
            return symbol >= 0 && k >= 0 && k < FUNCTION_ARGUMENTS && at < arguments.length ? arguments[at] : -1;
        }
    }

    /**
     * A term as its names from the left, each ahead of its arguments. A name's code holds its kind, its number and
     * how many arguments it has, so that a term's end is seen from its codes alone.
     */
    private static final class Term {
        static final int UNDEFINED = 0;
        static final int CONSTRUCTOR = 1, FUNCTION = 2, VARIABLE = 3;
        static final int ARITY_MASK = 7, INDEX_MASK = 127, INDEX_SHIFT = 3, KIND_SHIFT = 10;

        final int[] codes;
        int size;

        Term(int room) {
            codes = new int[Math.max(room, 0)];
        }

        static int codeOf(int kind, int index, int arity) {
            return kind << KIND_SHIFT | (index & INDEX_MASK) << INDEX_SHIFT | arity & ARITY_MASK;
        }

        static int kindOf(int code) {
            return code >> KIND_SHIFT;
        }

        static int indexOf(int code) {
            return code >> INDEX_SHIFT & INDEX_MASK;
        }

        int codeAt(int at) {
            return at >= 0 && at < size ? codes[at] : UNDEFINED;
        }

        void put(int code) {
            if (size < codes.length) {
                codes[size] = code;
                size++;
            }
        }

        /** The position behind the term that stands at one. */
        int behind(int at) {
            int missing = 1;
            int next = Math.max(at, 0);
            while (next < size && missing > 0) {
                missing += (codes[next] & ARITY_MASK) - 1;
                next++;
            }
            return next;
        }

        /** Puts codes of another term behind this one's: false if there is no room for them. */
        boolean append(Term from, int start, int stop) {
            int more = stop - start;
            if (start < 0 || more < 0 || stop > from.size || more > codes.length - size) {
                return false;
            }
            System.arraycopy(from.codes, start, codes, size, more);
            size += more;
            return true;
        }

        /** Becomes another term; all that is copied so has room here. */
        void copy(Term from) {
            int names = Math.min(from.size, codes.length);
            System.arraycopy(from.codes, 0, codes, 0, names);
            size = names;
        }

        /** Are the codes from a position on all those of another term? */
        boolean hasAt(int at, Term other) {
            if (at < 0 || other.size > size - at) {
                return false;
            }
            for (int i = 0; i < other.size; i++) {
                if (codes[at + i] != other.codes[i]) {
                    return false;
                }
            }
            return true;
        }

        boolean isLike(Term other) {
            return size == other.size && hasAt(0, other);
        }

        /** Do two positions have one term? */
        boolean areLike(int one, int other) {
            int names = behind(one) - one;
            if (one < 0 || other < 0 || names > size - other) {
                return false;
            }
            for (int i = 0; i < names; i++) {
                if (codes[one + i] != codes[other + i]) {
                    return false;
                }
            }
            return true;
        }

        /** Becomes another term with something in place of all that is just like the target: false without room. */
        boolean copyReplacing(Term from, Term target, Term instead) {
            size = 0;
            int at = 0;
            boolean fits = target.size > 0;
            for (int turn = 0; fits && turn < from.size && at < from.size; turn++) {
                boolean found = from.hasAt(at, target);
                fits = found ? append(instead, 0, instead.size) : append(from, at, at + 1);
                at += found ? target.size : 1;
            }
            return fits;
        }

        /** Which variables it has, a bit each. */
        long variables() {
            long mask = 0;
            for (int at = 0; at < size; at++) {
                if (kindOf(codes[at]) == VARIABLE) {
                    mask |= 1L << indexOf(codes[at]);
                }
            }
            return mask;
        }
    }

    /** A rule (owner: its function) or a law (with its name, and how it is proved). */
    private static final class Equation {
        final Term left = new Term(TOLD_NAMES);
        final Term right = new Term(TOLD_NAMES);
        final int[] types = new int[TOLD_NAMES];
        int variables;
        int owner;
        long name;
        int proved;
    }

    /** All that texts have told. */
    private static final class Program {
        final Symbols types = new Symbols(MOST_TYPES);
        final Symbols constructors = new Symbols(MOST_CONSTRUCTORS);
        final Symbols functions = new Symbols(MOST_FUNCTIONS);
        final Equation[] rules = new Equation[MOST_RULES];
        final Equation[] laws = new Equation[MOST_LAWS];
        int ruleCount;
        int lawCount;

        Program() {
            for (int r = 0; r < rules.length; r++) {
                rules[r] = new Equation();
            }
            for (int l = 0; l < laws.length; l++) {
                laws[l] = new Equation();
            }
        }

        boolean hasLaw(int law) {
            return law >= 0 && law < lawCount && law < laws.length;
        }

        boolean hasLawNamed(long name) {
            for (int l = 0; l < lawCount; l++) {
                if (laws[l].name == name) {
                    return true;
                }
            }
            return false;
        }

        /** The type of a term by its outermost name; -1 for what is undefined, which has any. */
        int typeOf(int code, int[] variableTypes) {
            int index = Term.indexOf(code);
            switch (Term.kindOf(code)) {
                case Term.CONSTRUCTOR:
                    return index < constructors.types.length ? constructors.types[index] : -1;
                case Term.FUNCTION:
                    return index < functions.types.length ? functions.types[index] : -1;
                case Term.VARIABLE:
                    return index < variableTypes.length ? variableTypes[index] : -1;
                default:
                    return -1;
            }
        }

        int codeOfConstructor(int c) {
            return Term.codeOf(Term.CONSTRUCTOR, c, c >= 0 && c < constructors.count ? constructors.arities[c] : 0);
        }

        void forgetProofs() {
            for (int l = 0; l < lawCount; l++) {
                laws[l].proved = 0;
            }
        }
    }

    /** Reads texts, and terms to be worked out, token by token: the first token that has a fault ends it. */
    private static final class Reader {
        static final int NO_TOKEN = 1, MISPLACED = 2, NOT_KNOWN = 3, OTHER_TYPE = 4, TOO_MANY = 5;
        // Types that are wanted: of a term that is worked out, and of a law's left side.
        static final int ANY = -1, UNTOLD = -2;
        static final int IN_RULE = 0, IN_LAW = 1, IN_WORK = 2;

        final Tape tape;
        final Program program;
        final long[] names = new long[TOLD_NAMES];
        int at;
        int faultKind;
        int faultPlace;
        // What is being read: an equation, or in work() none, and the term that names come to.
        int mode;
        Equation equation;
        Term term;
        int variables;

        Reader(Tape tape, Program program) {
            this.tape = tape;
            this.program = program;
            this.equation = program.rules[0];
            this.term = program.rules[0].left;
        }

        /** How many decls a text has told, or where its fault is; with a fault it has told nothing. */
        int readText() {
            int types = program.types.count;
            int constructors = program.constructors.count;
            int functions = program.functions.count;
            int rules = program.ruleCount;
            int laws = program.lawCount;
            tape.cut();
            at = 0;
            int decls = 0;
            boolean fine = true;
            while (fine && decls <= MOST_BYTES && token() != Tape.END) {
                int first = token();
                switch (first) {
                    case Tape.DATA:
                        fine = readData();
                        break;
                    case Tape.FUN:
                        fine = readFunction();
                        break;
                    case Tape.RULE:
                        fine = readRule();
                        break;
                    case Tape.LAW:
                        fine = readLaw();
                        break;
                    default:
                        fine = misplaced();
                        break;
                }
                fine = fine && take(';');
                program.lawCount += fine && first == Tape.LAW ? 1 : 0;
                decls++;
            }
            if (!fine) {
                program.types.count = types;
                program.constructors.count = constructors;
                program.functions.count = functions;
                program.ruleCount = rules;
                program.lawCount = laws;
                return FAULT_BASE - faultPlace;
            }
            if (program.ruleCount > rules) {
                program.forgetProofs();
            }
            return decls;
        }

        /** 0 when the tape is a term without variables; else where its fault is. */
        int readClosedTerm(Term into) {
            tape.cut();
            at = 0;
            mode = IN_WORK;
            startTerm(into);
            boolean fine = readTerm(ANY, 0, false) && take(Tape.END);
            return fine ? 0 : FAULT_BASE - faultPlace;
        }

        private boolean readData() {
            at++;
            if (!tellName(program.types, Tape.GREAT, ANY) || !take('=')) {
                return false;
            }
            int type = program.types.count - 1;
            boolean fine = readConstructor(type);
            for (int told = 1; fine && told <= MOST_CONSTRUCTORS && token() == '|'; told++) {
                at++;
                fine = readConstructor(type);
            }
            return fine;
        }

        private boolean readConstructor(int type) {
            if (!tellName(program.constructors, Tape.GREAT, type)) {
                return false;
            }
            for (int arguments = 0; arguments <= CONSTRUCTOR_ARGUMENTS && token() == Tape.GREAT; arguments++) {
                int argument = program.types.find(name());
                if (argument < 0) {
                    return fails(NOT_KNOWN);
                }
                if (arguments == CONSTRUCTOR_ARGUMENTS) {
                    return fails(TOO_MANY);
                }
                program.constructors.addArgument(argument);
                at++;
            }
            return true;
        }

        private boolean readFunction() {
            at++;
            if (!tellName(program.functions, Tape.SMALL, ANY) || !take(':')) {
                return false;
            }
            int function = program.functions.count - 1;
            boolean fine = function >= 0 && readResult(function);
            for (int arguments = 0; fine && arguments <= FUNCTION_ARGUMENTS && token() == '>'; arguments++) {
                if (arguments == FUNCTION_ARGUMENTS) {
                    return fails(TOO_MANY);
                }
                // What was taken for the type of what comes is an argument's, as another type follows.
                program.functions.addArgument(program.functions.types[function]);
                at++;
                fine = readResult(function);
            }
            return fine;
        }

        private boolean readResult(int function) {
            if (token() != Tape.GREAT) {
                return misplaced();
            }
            int type = program.types.find(name());
            if (type < 0) {
                return fails(NOT_KNOWN);
            }
            program.functions.types[function] = type;
            at++;
            return true;
        }

        private boolean readRule() {
            if (program.ruleCount >= MOST_RULES) {
                return fails(TOO_MANY);
            }
            at++;
            if (token() != Tape.SMALL) {
                return misplaced();
            }
            int function = program.functions.find(name());
            if (function < 0) {
                return fails(NOT_KNOWN);
            }
            startEquation(program.rules[program.ruleCount], IN_RULE);
            equation.owner = function;
            int arity = program.functions.arities[function];
            boolean fine = addName(Term.codeOf(Term.FUNCTION, function, arity));
            for (int k = 0; fine && k < arity; k++) {
                fine = readPattern(program.functions.argument(function, k), 0);
            }
            if (!fine || !take('=')) {
                return false;
            }
            startTerm(equation.right);
            if (!readTerm(program.functions.types[function], 0, false)) {
                return false;
            }
            equation.variables = variables;
            program.ruleCount++;
            return true;
        }

        /** A law is counted only behind its ; by the caller. */
        private boolean readLaw() {
            at++;
            if (token() != Tape.SMALL) {
                return misplaced();
            }
            if (program.hasLawNamed(name())) {
                return fails(NOT_KNOWN);
            }
            if (program.lawCount >= MOST_LAWS) {
                return fails(TOO_MANY);
            }
            startEquation(program.laws[program.lawCount], IN_LAW);
            equation.name = name();
            equation.proved = 0;
            at++;
            if (!take(':') || !readTerm(UNTOLD, 0, false) || !take('=')) {
                return false;
            }
            int type = program.typeOf(equation.left.codeAt(0), equation.types);
            startTerm(equation.right);
            if (!readTerm(type, 0, false)) {
                return false;
            }
            equation.variables = variables;
            return true;
        }

        private boolean readPattern(int type, int depth) {
            switch (token()) {
                case Tape.SMALL:
                    return readPatternVariable(type);
                case Tape.GREAT:
                    return readPatternConstructor(type, depth, false);
                case '(':
                    if (depth >= MOST_DEPTH) {
                        return fails(TOO_MANY);
                    }
                    at++;
                    if (token() != Tape.GREAT) {
                        return misplaced();
                    }
                    return readPatternConstructor(type, depth + 1, true) && take(')');
                default:
                    return misplaced();
            }
        }

        private boolean readPatternVariable(int type) {
            if (program.functions.find(name()) >= 0) {
                return fails(MISPLACED);
            }
            if (findVariable() >= 0) {
                return fails(NOT_KNOWN);
            }
            return addName(Term.codeOf(Term.VARIABLE, tellVariable(type), 0));
        }

        private boolean readPatternConstructor(int type, int depth, boolean inside) {
            int c = program.constructors.find(name());
            if (c < 0) {
                return fails(NOT_KNOWN);
            }
            int arity = program.constructors.arities[c];
            if (arity > 0 && !inside) {
                return fails(MISPLACED);
            }
            if (program.constructors.types[c] != type) {
                return fails(OTHER_TYPE);
            }
            boolean fine = addName(program.codeOfConstructor(c));
            for (int k = 0; fine && k < arity; k++) {
                fine = readPattern(program.constructors.argument(c, k), depth);
            }
            return fine;
        }

        private boolean readTerm(int type, int depth, boolean asAtom) {
            switch (token()) {
                case Tape.SMALL:
                    int function = program.functions.find(name());
                    if (function < 0) {
                        return readVariable(type);
                    }
                    return readApplied(Term.FUNCTION, function, type, depth, asAtom);
                case Tape.GREAT:
                    int constructor = program.constructors.find(name());
                    if (constructor < 0) {
                        return fails(NOT_KNOWN);
                    }
                    return readApplied(Term.CONSTRUCTOR, constructor, type, depth, asAtom);
                case '_':
                    return type == UNTOLD ? fails(MISPLACED) : addName(Term.UNDEFINED);
                case '(':
                    if (depth >= MOST_DEPTH) {
                        return fails(TOO_MANY);
                    }
                    at++;
                    return readTerm(type, depth + 1, false) && take(')');
                default:
                    return misplaced();
            }
        }

        private boolean readApplied(int kind, int index, int type, int depth, boolean asAtom) {
            Symbols symbols = kind == Term.FUNCTION ? program.functions : program.constructors;
            int arity = symbols.arities[index];
            if (asAtom && arity > 0) {
                return fails(MISPLACED);
            }
            if (type >= 0 && symbols.types[index] != type) {
                return fails(OTHER_TYPE);
            }
            boolean fine = addName(Term.codeOf(kind, index, arity));
            for (int k = 0; fine && k < arity; k++) {
                fine = readTerm(symbols.argument(index, k), depth, true);
            }
            return fine;
        }

        private boolean readVariable(int type) {
            if (type == UNTOLD) {
                return fails(MISPLACED);
            }
            int variable = mode == IN_WORK ? -1 : findVariable();
            if (variable < 0 && mode != IN_LAW) {
                return fails(NOT_KNOWN);
            }
            if (variable >= 0 && equation.types[variable] != type) {
                return fails(OTHER_TYPE);
            }
            if (variable < 0 && variables >= LAW_VARIABLES) {
                return fails(TOO_MANY);
            }
            return addName(Term.codeOf(Term.VARIABLE, variable < 0 ? tellVariable(type) : variable, 0));
        }

        /** The number of a new variable. There is room: a side has no more names than there are places. */
        private int tellVariable(int type) {
            int variable = variables;
            if (variable < names.length) {
                names[variable] = name();
                equation.types[variable] = type;
                variables++;
            }
            return variable;
        }

        private boolean addName(int code) {
            if (term.size >= TOLD_NAMES) {
                return fails(TOO_MANY);
            }
            term.put(code);
            at++;
            return true;
        }

        /** A name that is told comes to its sort. */
        private boolean tellName(Symbols symbols, int wanted, int type) {
            if (token() != wanted) {
                return misplaced();
            }
            if (symbols.find(name()) >= 0) {
                return fails(NOT_KNOWN);
            }
            if (symbols.isFull()) {
                return fails(TOO_MANY);
            }
            symbols.add(name(), type);
            at++;
            return true;
        }

        private int findVariable() {
            for (int v = 0; v < variables && v < names.length; v++) {
                if (names[v] == name()) {
                    return v;
                }
            }
            return -1;
        }

        private void startEquation(Equation told, int how) {
            equation = told;
            mode = how;
            variables = 0;
            startTerm(told.left);
        }

        private void startTerm(Term into) {
            term = into;
            term.size = 0;
        }

        private boolean take(int wanted) {
            if (token() != wanted) {
                return misplaced();
            }
            at++;
            return true;
        }

        private int token() {
            return at >= 0 && at < tape.tokenCount ? tape.tokens[at] : Tape.END;
        }

        private long name() {
            return at >= 0 && at < tape.tokenCount ? tape.names[at] : 0;
        }

        private boolean misplaced() {
            return fails(token() == Tape.BAD ? NO_TOKEN : MISPLACED);
        }

        private boolean fails(int kind) {
            faultKind = kind;
            faultPlace = at >= 0 && at < tape.tokenCount ? tape.starts[at] : tape.length;
            return false;
        }
    }

    /** What was printed last. */
    private static final class Printer {
        // A name has six bytes at most, with a blank ahead and ( ) round it.
        static final int MOST_PRINTED = WORK_NAMES * (NAME_BYTES + 3);

        final Program program;
        final int[] bytes = new int[MOST_PRINTED];
        final int[] missing = new int[WORK_NAMES];
        int length;

        Printer(Program program) {
            this.program = program;
        }

        /** Prints a term, its free variables (a bit each) with f: how many bytes that is. */
        int print(Term term, long free) {
            length = 0;
            int depth = 0;
            for (int at = 0; at < term.size; at++) {
                int code = term.codes[at];
                int arity = code & Term.ARITY_MASK;
                if (at > 0) {
                    putByte(' ');
                }
                if (at > 0 && arity > 0) {
                    putByte('(');
                }
                putNameOf(code, free);
                if (arity > 0 && depth < missing.length) {
                    missing[depth] = arity;
                    depth++;
                } else {
                    depth = closeAll(depth);
                }
            }
            return length;
        }

        /** An argument has ended, and with it all terms whose last one it was; the whole term has no ( ). */
        private int closeAll(int depth) {
            int open = depth;
            while (open > 0) {
                missing[open - 1]--;
                if (missing[open - 1] > 0) {
                    return open;
                }
                open--;
                if (open > 0) {
                    putByte(')');
                }
            }
            return open;
        }

        private void putNameOf(int code, long free) {
            int index = Term.indexOf(code);
            switch (Term.kindOf(code)) {
                case Term.CONSTRUCTOR:
                    putName(index < program.constructors.count ? program.constructors.names[index] : 0);
                    break;
                case Term.FUNCTION:
                    putName(index < program.functions.count ? program.functions.names[index] : 0);
                    break;
                case Term.VARIABLE:
                    putByte((free >> index & 1) == 1 ? 'f' : 'v');
                    if (index >= 10) {
                        putByte('0' + index / 10);
                    }
                    putByte('0' + index % 10);
                    break;
                default:
                    putByte('_');
                    break;
            }
        }

        private void putName(long name) {
            for (int shift = 8 * (NAME_BYTES - 1); shift >= 0; shift -= 8) {
                int b = (int) (name >> shift & 255);
                if (b != 0) {
                    putByte(b);
                }
            }
        }

        private void putByte(int b) {
            if (length < bytes.length) {
                bytes[length] = b;
                length++;
            }
        }
    }

    /** Matches calls with rules, and terms with sides of laws; puts what they become in their place; works out. */
    private static final class Rewriter {
        static final int FITS = 0, IS_UNDEFINED = 1, WAITS = 2, MISSES = 3;
        static final int DONE = 0, NO_STEP = 1, TOO_GREAT = 2;

        final Program program;
        // Where, in the term that was matched, that stands which a variable is; -1: nothing is told of it.
        final int[] bound = new int[MOST_VARIABLES];
        final Term undefined = new Term(1);
        final Term next = new Term(WORK_NAMES);
        Term outcome;
        int waitsAt;
        int taken;

        Rewriter(Program program) {
            this.program = program;
            undefined.codes[0] = Term.UNDEFINED;
            undefined.size = 1;
            outcome = undefined;
        }

        /** Matches a call: it WAITS at waitsAt, or FITS or IS_UNDEFINED, and outcome is what it becomes. */
        int matchCall(Term term, int at) {
            outcome = undefined;
            int code = term.codeAt(at);
            if (Term.kindOf(code) != Term.FUNCTION) {
                return IS_UNDEFINED;
            }
            int function = Term.indexOf(code);
            for (int r = 0; r < program.ruleCount; r++) {
                Equation rule = program.rules[r];
                int how = rule.owner == function ? matchRule(rule.left, term, at) : MISSES;
                if (how == FITS) {
                    outcome = rule.right;
                }
                if (how != MISSES) {
                    return how;
                }
            }
            return IS_UNDEFINED;
        }

        private int matchRule(Term left, Term term, int at) {
            int here = at + 1;
            for (int p = 1; p < left.size; p++) {
                int wanted = left.codes[p];
                int code = term.codeAt(here);
                int variable = Term.indexOf(wanted);
                if (Term.kindOf(wanted) == Term.VARIABLE && variable < bound.length) {
                    bound[variable] = here;
                    here = term.behind(here);
                } else if (code == wanted) {
                    here++;
                } else if (code == Term.UNDEFINED) {
                    return IS_UNDEFINED;
                } else if (Term.kindOf(code) != Term.CONSTRUCTOR) {
                    waitsAt = here;
                    return WAITS;
                } else {
                    return MISSES;
                }
            }
            return FITS;
        }

        /** Is the term at a position a pattern with something in place of its free variables (a bit each)? */
        boolean matchSide(Term pattern, long free, Term term, int at) {
            int outermost = pattern.codeAt(0);
            // Most places fail here, and need not make bound ready.
            if (Term.kindOf(outermost) != Term.VARIABLE && outermost != term.codeAt(at)) {
                return false;
            }
            for (int v = 0; v < bound.length; v++) {
                bound[v] = -1;
            }
            int here = at;
            for (int p = 0; p < pattern.size; p++) {
                int wanted = pattern.codes[p];
                int v = Term.indexOf(wanted);
                if (Term.kindOf(wanted) == Term.VARIABLE && v < bound.length && (free >> v & 1) == 1) {
                    if (bound[v] < 0) {
                        bound[v] = here;
                    } else if (!term.areLike(bound[v], here)) {
                        return false;
                    }
                    here = term.behind(here);
                } else if (here < term.size && term.codeAt(here) == wanted) {
                    here++;
                } else {
                    return false;
                }
            }
            return true;
        }

        /** Has a side no free variable but those that are bound? */
        boolean isBound(Term side, long free) {
            for (int p = 0; p < side.size; p++) {
                int v = Term.indexOf(side.codes[p]);
                if (Term.kindOf(side.codes[p]) == Term.VARIABLE && v < bound.length && (free >> v & 1) == 1
                        && bound[v] < 0) {
                    return false;
                }
            }
            return true;
        }

        /** Makes a term with a template, filled with what is bound, at a position: false if it has no room. */
        boolean replaceAt(Term term, int at, Term template, Term made) {
            made.size = 0;
            if (!made.append(term, 0, at)) {
                return false;
            }
            for (int p = 0; p < template.size; p++) {
                int code = template.codes[p];
                int v = Term.indexOf(code);
                int from = Term.kindOf(code) == Term.VARIABLE && v < bound.length ? bound[v] : -1;
                boolean fits = from < 0 ? made.append(template, p, p + 1) : made.append(term, from, term.behind(from));
                if (!fits) {
                    return false;
                }
            }
            return made.append(term, term.behind(at), term.size);
        }

        /** Works a term without variables out, in its own room, with so many steps: DONE, NO_STEP or TOO_GREAT. */
        int workOut(Term term, int steps) {
            taken = 0;
            int at = firstCall(term);
            while (at >= 0 && taken < steps) {
                int how = matchCall(term, at);
                for (int turn = 0; how == WAITS && turn < term.size; turn++) {
                    at = waitsAt;
                    how = matchCall(term, at);
                }
                if (!replaceAt(term, at, outcome, next)) {
                    return TOO_GREAT;
                }
                term.copy(next);
                taken++;
                at = firstCall(term);
            }
            return at < 0 ? DONE : NO_STEP;
        }

        private static int firstCall(Term term) {
            for (int at = 0; at < term.size; at++) {
                if (Term.kindOf(term.codes[at]) == Term.FUNCTION) {
                    return at;
                }
            }
            return -1;
        }
    }

    /** Tries laws on all small values, and keeps the row of values that was told last. */
    private static final class Trial {
        static final int ALL_DONE = 0, DIFFERS = 1, SOME_NOT_DONE = 2;
        static final int SIZES = TEST_SIZE + 1;
        static final int TUPLES = CONSTRUCTOR_ARGUMENTS + 1;
        // Counts stop here: all that is more is too much.
        static final int ENOUGH = TEST_ROWS + 1;

        final Program program;
        final Rewriter rewriter;
        // How many values of a type, and tuples of a constructor's arguments from one on, have so many names.
        final int[] valueCounts = new int[MOST_TYPES * SIZES];
        final int[] tupleCounts = new int[MOST_CONSTRUCTORS * TUPLES * SIZES];
        final int[] totals = new int[LAW_VARIABLES];
        final Term[] values = new Term[LAW_VARIABLES];
        final Term[] toldValues = new Term[LAW_VARIABLES];
        final Term left = new Term(TOLD_NAMES * TEST_SIZE);
        final Term right = new Term(TOLD_NAMES * TEST_SIZE);
        boolean withUndefined;
        int toldCount = -1;

        Trial(Program program, Rewriter rewriter) {
            this.program = program;
            this.rewriter = rewriter;
            for (int v = 0; v < LAW_VARIABLES; v++) {
                values[v] = new Term(TEST_SIZE);
                toldValues[v] = new Term(TEST_SIZE);
            }
        }

        int tryLaw(Equation law, int size, boolean all) {
            withUndefined = all;
            countValues(size);
            int rows = countRows(law, size);
            if (rows > TEST_ROWS) {
                return ROOM;
            }
            int answer = ALL_DONE;
            for (int row = 0; row < rows; row++) {
                int how = tryRow(law, row);
                if (how == DIFFERS) {
                    tellRow(law);
                    return DIFFERS;
                }
                answer = Math.max(answer, how);
            }
            return answer;
        }

        private int tryRow(Equation law, int row) {
            setValues(law, row);
            fill(law.left, left);
            fill(law.right, right);
            if (rewriter.workOut(left, TEST_STEPS) != Rewriter.DONE
                    || rewriter.workOut(right, TEST_STEPS) != Rewriter.DONE) {
                return SOME_NOT_DONE;
            }
            return left.isLike(right) ? ALL_DONE : DIFFERS;
        }

        private void tellRow(Equation law) {
            toldCount = Math.min(law.variables, LAW_VARIABLES);
            for (int v = 0; v < toldCount; v++) {
                toldValues[v].copy(values[v]);
            }
        }

        private void fill(Term side, Term into) {
            into.size = 0;
            for (int p = 0; p < side.size; p++) {
                int v = Term.indexOf(side.codes[p]);
                if (Term.kindOf(side.codes[p]) == Term.VARIABLE && v < values.length) {
                    into.append(values[v], 0, values[v].size);
                } else {
                    into.put(side.codes[p]);
                }
            }
        }

        private void countValues(int size) {
            for (int n = 1; n <= size; n++) {
                for (int t = 0; t < program.types.count; t++) {
                    valueCounts[t * SIZES + n] = withUndefined && n == 1 ? 1 : 0;
                }
                for (int c = 0; c < program.constructors.count; c++) {
                    int cell = program.constructors.types[c] * SIZES + n;
                    int tuples = countTuples(c, n - 1);
                    if (cell >= 0 && cell < valueCounts.length) {
                        valueCounts[cell] = Math.min(valueCounts[cell] + tuples, ENOUGH);
                    }
                }
            }
        }

        /** Counts the tuples with n names, of all arguments and of the last ones; those with fewer are counted. */
        private int countTuples(int c, int n) {
            int arity = Math.min(program.constructors.arities[c], CONSTRUCTOR_ARGUMENTS);
            for (int k = arity; k >= 0; k--) {
                int sum = k == arity && n == 0 ? 1 : 0;
                for (int first = 1; k < arity && first <= n; first++) {
                    sum += valuesOf(program.constructors.argument(c, k), first) * tuplesOf(c, k + 1, n - first);
                }
                tupleCounts[(c * TUPLES + k) * SIZES + n] = Math.min(sum, ENOUGH);
            }
            return tuplesOf(c, 0, n);
        }

        private int valuesOf(int type, int n) {
            int cell = type * SIZES + n;
            return type >= 0 && n >= 0 && n < SIZES && cell < valueCounts.length ? valueCounts[cell] : 0;
        }

        private int tuplesOf(int c, int from, int n) {
            int cell = (c * TUPLES + from) * SIZES + n;
            return c >= 0 && from >= 0 && from < TUPLES && n >= 0 && n < SIZES && cell < tupleCounts.length
                    ? tupleCounts[cell] : 0;
        }

        private int countRows(Equation law, int size) {
            int rows = 1;
            for (int v = 0; v < law.variables && v < LAW_VARIABLES; v++) {
                int total = 0;
                for (int n = 1; n <= size; n++) {
                    total += valuesOf(law.types[v], n);
                }
                totals[v] = Math.min(total, ENOUGH);
                rows = Math.min(rows * totals[v], ENOUGH);
            }
            return rows;
        }

        private void setValues(Equation law, int row) {
            int left = row;
            for (int v = Math.min(law.variables, LAW_VARIABLES) - 1; v >= 0; v--) {
                int total = Math.max(totals[v], 1);
                int place = left % total;
                left /= total;
                int n = 1;
                while (n < TEST_SIZE && place >= valuesOf(law.types[v], n)) {
                    place -= valuesOf(law.types[v], n);
                    n++;
                }
                values[v].size = 0;
                putValue(law.types[v], n, place, values[v]);
            }
        }

        /** Puts the value at a place among those of a type with n names; arguments have fewer, so that it ends. */
        private void putValue(int type, int n, int place, Term into) {
            int left = place;
            if (withUndefined && n == 1) {
                if (left == 0) {
                    into.put(Term.UNDEFINED);
                    return;
                }
                left--;
            }
            for (int c = 0; c < program.constructors.count && n >= 1; c++) {
                int ways = program.constructors.types[c] == type ? tuplesOf(c, 0, n - 1) : 0;
                if (left < ways) {
                    into.put(program.codeOfConstructor(c));
                    putArguments(c, n - 1, left, into);
                    return;
                }
                left -= ways;
            }
        }

        private void putArguments(int c, int n, int place, Term into) {
            int left = place;
            int names = n;
            for (int k = 0; k < program.constructors.arities[c] && names >= 1; k++) {
                int type = program.constructors.argument(c, k);
                int first = 1;
                int ways = valuesOf(type, first) * tuplesOf(c, k + 1, names - first);
                while (first < names && left >= ways) {
                    left -= ways;
                    first++;
                    ways = valuesOf(type, first) * tuplesOf(c, k + 1, names - first);
                }
                int rest = Math.max(tuplesOf(c, k + 1, names - first), 1);
                putValue(type, first, left / rest, into);
                left %= rest;
                names -= first;
            }
        }
    }

    /** Two terms that are to be alike, and the hypotheses, two terms each, behind them. */
    private static final class Goal {
        final Term[] terms = new Term[2 + 2 * MOST_HYPOTHESES];
        // The free variables of each hypothesis, a bit each.
        final long[] free = new long[MOST_HYPOTHESES];
        int hypotheses;
        int splits;

        Goal() {
            for (int t = 0; t < terms.length; t++) {
                terms[t] = new Term(GOAL_NAMES);
            }
        }

        void copy(Goal from) {
            terms[0].copy(from.terms[0]);
            terms[1].copy(from.terms[1]);
            copyRest(from);
        }

        /** Copies all but the two terms. */
        void copyRest(Goal from) {
            hypotheses = from.hypotheses;
            splits = from.splits;
            for (int k = 0; k < hypotheses && k < free.length; k++) {
                free[k] = from.free[k];
                terms[2 + 2 * k].copy(from.terms[2 + 2 * k]);
                terms[3 + 2 * k].copy(from.terms[3 + 2 * k]);
            }
        }

        long variables() {
            return terms[0].variables() | terms[1].variables();
        }
    }

    /** A proof of a law; without one, and when it is done, no goal is open. */
    private static final class Proof {
        final Goal[] goals = new Goal[MOST_GOALS];
        final int[] types = new int[MOST_VARIABLES];
        int open;
        int rows;
        int law;
        boolean full;
        int variables;
        // A bit each: a variable is sure, or fixed, in all goals that have it.
        long sure;
        long fixed;

        Proof() {
            for (int g = 0; g < goals.length; g++) {
                goals[g] = new Goal();
            }
        }

        void forget() {
            open = 0;
            rows = 0;
        }

        void start(Equation told, int number, boolean forAll) {
            law = number;
            full = forAll;
            rows = 0;
            open = 1;
            variables = Math.min(told.variables, MOST_VARIABLES);
            sure = forAll ? 0 : (1L << variables) - 1;
            fixed = 0;
            for (int v = 0; v < variables && v < told.types.length; v++) {
                types[v] = told.types[v];
            }
            Goal goal = goals[0];
            goal.terms[0].copy(told.left);
            goal.terms[1].copy(told.right);
            goal.hypotheses = 0;
            goal.splits = 0;
        }

        boolean isFixed(int v) {
            return (fixed >> v & 1) == 1;
        }

        void copy(Proof from) {
            open = from.open;
            rows = from.rows;
            law = from.law;
            full = from.full;
            variables = from.variables;
            sure = from.sure;
            fixed = from.fixed;
            for (int v = 0; v < variables && v < types.length; v++) {
                types[v] = from.types[v];
            }
            for (int g = 0; g < open && g < goals.length; g++) {
                goals[g].copy(from.goals[g]);
            }
        }
    }

    /** The rows of a proof, each about its first goal (there is one), and the search for them. */
    private static final class Prover {
        // A place is an int, which has no more digits.
        static final int MOST_DIGITS = 10;

        final Program program;
        final Rewriter rewriter;
        final Proof proof = new Proof();
        final Proof kept = new Proof();
        // The goals that a row makes, until it is known that all of them have room.
        final Goal[] spare = new Goal[MOST_GOALS];
        final Term rewritten = new Term(GOAL_NAMES);
        // The law or hypothesis that is used: its variables' types; of its variables, those in place of which
        // something may stand, and those for which that must be finite.
        Term from;
        Term into;
        long free;
        long limited;
        int[] types;
        // What a split is about: a variable, or a call (then splitVariable is -1), and what comes in its place;
        // the variables that are free in the hypotheses of an induction.
        final Term target = new Term(GOAL_NAMES);
        final Term instead = new Term(1 + CONSTRUCTOR_ARGUMENTS);
        int splitVariable;
        int splitType;
        long splitFree;
        boolean inducing;
        boolean newFixed;
        boolean newSure;

        Prover(Program program, Rewriter rewriter) {
            this.program = program;
            this.rewriter = rewriter;
            from = rewritten;
            into = rewritten;
            types = proof.types;
            for (int g = 0; g < spare.length; g++) {
                spare[g] = new Goal();
            }
        }

        private Term sideOf(int side) {
            return proof.goals[0].terms[side == 0 ? 0 : 1];
        }

        /** Where a place, told in decimals, is among a side's names; -1 if there is no such place. */
        int positionOf(int side, int place) {
            Term term = sideOf(side);
            int unit = 1;
            for (int digits = 1; digits < MOST_DIGITS && place / unit >= 10; digits++) {
                unit *= 10;
            }
            int at = 0;
            for (int rest = unit; place > 0 && rest > 0; rest /= 10) {
                int argument = place / rest % 10;
                if (argument < 1 || argument > (term.codeAt(at) & Term.ARITY_MASK)) {
                    return -1;
                }
                at++;
                for (int k = 1; k < argument; k++) {
                    at = term.behind(at);
                }
            }
            return at;
        }

        int unfoldAt(int side, int at) {
            Term term = sideOf(side);
            if (at < 0 || Term.kindOf(term.codeAt(at)) != Term.FUNCTION) {
                return WRONG;
            }
            if (rewriter.matchCall(term, at) == Rewriter.WAITS) {
                return WRONG;
            }
            return rewriter.replaceAt(term, at, rewriter.outcome, rewritten) ? changeSide(term) : ROOM;
        }

        boolean chooseLaw(int law, boolean back) {
            if (!program.hasLaw(law)) {
                return false;
            }
            Equation told = program.laws[law];
            from = back ? told.right : told.left;
            into = back ? told.left : told.right;
            free = -1L;
            limited = told.proved == FULL ? 0 : -1L;
            types = told.types;
            return told.proved >= (proof.full ? FULL : FINITE);
        }

        boolean chooseHypothesis(int k, boolean back) {
            Goal goal = proof.goals[0];
            if (k < 0 || k >= goal.hypotheses || k >= MOST_HYPOTHESES) {
                return false;
            }
            from = goal.terms[2 + 2 * k + (back ? 1 : 0)];
            into = goal.terms[2 + 2 * k + (back ? 0 : 1)];
            free = goal.free[k];
            limited = proof.full ? 0 : proof.sure;
            types = proof.types;
            return true;
        }

        /** Uses the law or hypothesis that was chosen. */
        int rewriteAt(int side, int at) {
            Term term = sideOf(side);
            if (at < 0 || !rewriter.matchSide(from, free, term, at)) {
                return WRONG;
            }
            if (!isAllowed(term) || !rewriter.isBound(into, free)) {
                return WRONG;
            }
            return rewriter.replaceAt(term, at, into, rewritten) ? changeSide(term) : ROOM;
        }

        /** May all that is bound stand in place of its variable? */
        private boolean isAllowed(Term term) {
            for (int v = 0; v < MOST_VARIABLES && v < types.length; v++) {
                int at = rewriter.bound[v];
                if (at >= 0) {
                    int type = program.typeOf(term.codeAt(at), proof.types);
                    boolean mustBeSure = (limited >> v & 1) == 1;
                    if (type >= 0 && type != types[v] || mustBeSure && !isSure(term, at)) {
                        return false;
                    }
                }
            }
            return true;
        }

        /** Is it made of constructors and sure variables alone? */
        private boolean isSure(Term term, int at) {
            int stop = term.behind(at);
            for (int p = at; p < stop; p++) {
                int kind = Term.kindOf(term.codes[p]);
                boolean sure = kind == Term.VARIABLE && (proof.sure >> Term.indexOf(term.codes[p]) & 1) == 1;
                if (kind != Term.CONSTRUCTOR && !sure) {
                    return false;
                }
            }
            return true;
        }

        private int changeSide(Term term) {
            term.copy(rewritten);
            proof.rows++;
            return proof.open;
        }

        int inductOver(int v) {
            long present = proof.goals[0].variables();
            if (v < 0 || v >= proof.variables || (present >> v & 1) == 0 || proof.isFixed(v)) {
                return WRONG;
            }
            aimAtVariable(v);
            splitFree = present & ~proof.fixed & ~(1L << v);
            inducing = true;
            newFixed = true;
            return split();
        }

        /** The cases of the term at a position. */
        int splitAt(int side, int at) {
            Term term = sideOf(side);
            int code = term.codeAt(at);
            int index = Term.indexOf(code);
            inducing = false;
            if (at >= 0 && Term.kindOf(code) == Term.VARIABLE && index < proof.variables) {
                aimAtVariable(index);
                newFixed = proof.isFixed(index);
                return split();
            }
            if (at >= 0 && Term.kindOf(code) == Term.FUNCTION && index < program.functions.count) {
                target.size = 0;
                target.append(term, at, term.behind(at));
                splitVariable = -1;
                splitType = program.functions.types[index];
                newFixed = true;
                newSure = false;
                return split();
            }
            return WRONG;
        }

        private void aimAtVariable(int v) {
            target.size = 0;
            target.put(Term.codeOf(Term.VARIABLE, v, 0));
            splitVariable = v;
            splitType = v >= 0 && v < proof.types.length ? proof.types[v] : -1;
            newSure = (proof.sure >> v & 1) == 1;
        }

        /** Puts, for what the target may be (_ , if it is not sure, and each constructor), a goal in its place. */
        private int split() {
            int made = 0;
            int next = proof.variables;
            for (int c = newSure ? 0 : -1; c < program.constructors.count; c++) {
                if (c < 0 || program.constructors.types[c] == splitType) {
                    int after = putInstead(c, next);
                    if (after > MOST_VARIABLES || made >= spare.length || !makeGoal(spare[made])) {
                        return ROOM;
                    }
                    Goal goal = spare[made];
                    boolean fits = inducing ? addInductionHypotheses(goal, next)
                            : splitVariable < 0 ? addCallHypothesis(goal) : !newFixed || replaceInHypotheses(goal);
                    if (!fits) {
                        return ROOM;
                    }
                    next = after;
                    made++;
                }
            }
            if (proof.open - 1 + made > MOST_GOALS) {
                return ROOM;
            }
            if (newSure) {
                proof.sure |= bits(proof.variables, next);
            }
            if (newFixed) {
                proof.fixed |= bits(proof.variables, next);
            }
            if (splitVariable < 0) {
                proof.fixed |= target.variables();
            }
            proof.variables = next;
            return putGoals(made);
        }

        /** Instead of the target comes a constructor with new variables, or _ (-1): the number behind theirs. */
        private int putInstead(int c, int next) {
            instead.size = 0;
            instead.put(c < 0 ? Term.UNDEFINED : program.codeOfConstructor(c));
            int arity = c < 0 ? 0 : program.constructors.arities[c];
            for (int k = 0; k < arity && next + k < MOST_VARIABLES; k++) {
                // Numbers that are not given yet: if the row is refused, these types are never looked at.
                proof.types[next + k] = program.constructors.argument(c, k);
                instead.put(Term.codeOf(Term.VARIABLE, next + k, 0));
            }
            return next + arity;
        }

        private boolean makeGoal(Goal goal) {
            Goal old = proof.goals[0];
            goal.copyRest(old);
            goal.splits++;
            return goal.terms[0].copyReplacing(old.terms[0], target, instead)
                    && goal.terms[1].copyReplacing(old.terms[1], target, instead);
        }

        private boolean addInductionHypotheses(Goal goal, int next) {
            Goal old = proof.goals[0];
            int stop = next + instead.size - 1;
            for (int v = next; v < stop && v < proof.types.length; v++) {
                if (proof.types[v] == splitType) {
                    rewritten.size = 0;
                    rewritten.put(Term.codeOf(Term.VARIABLE, v, 0));
                    int k = goal.hypotheses;
                    if (k >= MOST_HYPOTHESES
                            || !goal.terms[2 + 2 * k].copyReplacing(old.terms[0], target, rewritten)
                            || !goal.terms[3 + 2 * k].copyReplacing(old.terms[1], target, rewritten)) {
                        return false;
                    }
                    goal.free[k] = splitFree;
                    goal.hypotheses++;
                }
            }
            return true;
        }

        private boolean addCallHypothesis(Goal goal) {
            int k = goal.hypotheses;
            if (k >= MOST_HYPOTHESES) {
                return false;
            }
            goal.terms[2 + 2 * k].copy(target);
            goal.terms[3 + 2 * k].copy(instead);
            goal.free[k] = 0;
            goal.hypotheses++;
            return true;
        }

        private boolean replaceInHypotheses(Goal goal) {
            Goal old = proof.goals[0];
            boolean fits = true;
            for (int k = 0; fits && k < old.hypotheses && k < MOST_HYPOTHESES; k++) {
                if ((old.free[k] >> splitVariable & 1) == 0) {
                    fits = goal.terms[2 + 2 * k].copyReplacing(old.terms[2 + 2 * k], target, instead)
                            && goal.terms[3 + 2 * k].copyReplacing(old.terms[3 + 2 * k], target, instead);
                }
            }
            return fits;
        }

        /** The bits of the numbers from one on up to, but not with, another. */
        private static long bits(int start, int stop) {
            long mask = 0;
            for (int v = start; v < stop && v < MOST_VARIABLES; v++) {
                mask |= 1L << v;
            }
            return mask;
        }

        int dropSame() {
            Goal goal = proof.goals[0];
            return goal.terms[0].isLike(goal.terms[1]) ? putGoals(0) : WRONG;
        }

        int takeApart() {
            Goal old = proof.goals[0];
            int code = old.terms[0].codeAt(0);
            if (Term.kindOf(code) != Term.CONSTRUCTOR || code != old.terms[1].codeAt(0)) {
                return WRONG;
            }
            int arity = code & Term.ARITY_MASK;
            if (proof.open - 1 + arity > MOST_GOALS) {
                return ROOM;
            }
            int left = 1;
            int right = 1;
            for (int k = 0; k < arity && k < spare.length; k++) {
                Goal goal = spare[k];
                goal.copyRest(old);
                goal.terms[0].size = 0;
                goal.terms[0].append(old.terms[0], left, old.terms[0].behind(left));
                goal.terms[1].size = 0;
                goal.terms[1].append(old.terms[1], right, old.terms[1].behind(right));
                left = old.terms[0].behind(left);
                right = old.terms[1].behind(right);
            }
            return putGoals(arity);
        }

        /** A row is done: the first so many spare goals stand in place of the first one. */
        private int putGoals(int made) {
            int more = made - 1;
            if (made == 0) {
                for (int g = 1; g < proof.open; g++) {
                    swapGoals(g - 1, g);
                }
            }
            for (int g = proof.open - 1; more > 0 && g >= 1; g--) {
                swapGoals(g, g + more);
            }
            for (int g = 0; g < made && g < spare.length && g < MOST_GOALS; g++) {
                Goal old = proof.goals[g];
                proof.goals[g] = spare[g];
                spare[g] = old;
            }
            proof.open += more;
            proof.rows++;
            if (proof.open == 0 && program.hasLaw(proof.law)) {
                Equation told = program.laws[proof.law];
                told.proved = Math.max(told.proved, proof.full ? FULL : FINITE);
            }
            return proof.open;
        }

        private void swapGoals(int one, int other) {
            if (one >= 0 && one < MOST_GOALS && other >= 0 && other < MOST_GOALS) {
                Goal goal = proof.goals[one];
                proof.goals[one] = proof.goals[other];
                proof.goals[other] = goal;
            }
        }

        /** One row of the search; false if none can be done. */
        boolean nextRow() {
            return dropSame() >= 0 || unfoldFirst() || useFirst() || takeApart() >= 0 || splitFirst();
        }

        private boolean unfoldFirst() {
            for (int side = 0; side <= 1; side++) {
                int size = sideOf(side).size;
                for (int at = 0; at < size; at++) {
                    if (unfoldAt(side, at) >= 0) {
                        return true;
                    }
                }
            }
            return false;
        }

        private boolean useFirst() {
            int hypotheses = proof.goals[0].hypotheses;
            for (int k = 0; k < hypotheses; k++) {
                if (chooseHypothesis(k, false) && rewriteFirst()) {
                    return true;
                }
            }
            for (int l = 0; l < program.lawCount; l++) {
                if (l != proof.law && chooseLaw(l, false) && rewriteFirst()) {
                    return true;
                }
            }
            return false;
        }

        private boolean rewriteFirst() {
            for (int side = 0; side <= 1; side++) {
                int size = sideOf(side).size;
                for (int at = 0; at < size; at++) {
                    if (rewriteAt(side, at) >= 0) {
                        return true;
                    }
                }
            }
            return false;
        }

        private boolean splitFirst() {
            if (proof.goals[0].splits >= MOST_SPLITS) {
                return false;
            }
            for (int side = 0; side <= 1; side++) {
                Term term = sideOf(side);
                for (int at = 0; at < term.size; at++) {
                    if (rewriter.matchCall(term, at) == Rewriter.WAITS) {
                        int code = term.codeAt(rewriter.waitsAt);
                        int v = Term.indexOf(code);
                        if (Term.kindOf(code) == Term.VARIABLE) {
                            int answer = proof.isFixed(v) ? splitAt(side, rewriter.waitsAt) : inductOver(v);
                            return answer >= 0;
                        }
                    }
                }
            }
            return false;
        }
    }
}
