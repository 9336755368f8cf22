import java.util.NoSuchElementException;

/** A judge for a small C: what a program does under told orders, and whether optimising it keeps that. */
public final class Sequencepoint {
    private static final int MAX_VARIABLES = 10;
    private static final int MAX_LENGTH = 8;
    private static final int MAX_FUNCTIONS = 3;
    private static final int MAX_NODES = 100;
    private static final int MAX_STATEMENTS = 60;
    private static final int MAX_DEPTH = 12;
    private static final int MAX_CALLS = 8;
    private static final int MAX_STEPS = 300;
    private static final int MAX_PRINTED = 80;
    private static final int ORDERS = 16;
    private static final int CHOICE_BITS = 30;

    /** Stands for a part that is not there, and for a type that does not exist. */
    private static final int NONE = -1;
    private static final int POINTER = 10;
    /** The type 2, to which smaller numbers are promoted, and that of what is true or not. */
    private static final int PROMOTED = 2;

    private static final int NUMBER = 0;
    private static final int NAME = 1;
    private static final int UNARY = 2;
    private static final int CAST = 3;
    private static final int BINARY = 4;
    private static final int CHOICE = 5;
    private static final int ASSIGN = 6;
    private static final int CALL = 7;

    private static final String UNARY_KINDS = "-~!*&idID";
    private static final String BINARY_KINDS = "+-*/%&|^lr<=ao,";
    private static final String SEQUENCED_KINDS = "ao,";
    private static final String ASSIGN_KINDS = "sp";
    private static final String SIMPLE_KINDS = "epr";

    /** In place of the kind of what has no meaning: it has one. */
    private static final char FINE = ' ';
    private static final char GOING = ' ';
    private static final char NORMAL = 'n';
    private static final char LIMIT = 'l';
    private static final char UNDEFINED = 'x';

    private final Program program = new Program();
    private final Optimiser optimiser = new Optimiser();
    private final Machine machine = new Machine();
    private final Outcome last = new Outcome();
    private final Outcome tried = new Outcome();
    private final Outcome[] outcomes = new Outcome[ORDERS];
    private long stepsOfAll;

    public Sequencepoint() {
        for (int order = 0; order < ORDERS; order++) {
            outcomes[order] = new Outcome();
        }
    }

    // Variables and functions

    public int addVariable(int type, int length, boolean isGlobal)
            throws IllegalArgumentException, IllegalStateException {
        if (!Numbers.isType(type) || length < 0 || length > MAX_LENGTH) {
            throw new IllegalArgumentException("no such type or length");
        }
        if (length > 0 && !Numbers.isNumber(type)) {
            throw new IllegalArgumentException("an array of pointers");
        }
        if (program.variableCount >= MAX_VARIABLES) {
            throw new IllegalStateException("there are 10 variables");
        }
        return program.keepVariable(new Variable(type, length, isGlobal));
    }

    public int addFunction(int result, int first, int second)
            throws IllegalArgumentException, IndexOutOfBoundsException, UnsupportedOperationException,
            IllegalStateException {
        if (!Numbers.isNumber(result) || first == NONE && second != NONE) {
            throw new IllegalArgumentException("no number type, or a second parameter without a first one");
        }
        Variable one = program.variableAt(first);
        Variable two = program.variableAt(second);
        if (one == null && first != NONE || two == null && second != NONE) {
            throw new IndexOutOfBoundsException("no such variable");
        }
        if (!canBeParameter(one) || !canBeParameter(two) || one != null && one == two) {
            throw new UnsupportedOperationException("no such parameters can be");
        }
        if (program.functionCount >= MAX_FUNCTIONS) {
            throw new IllegalStateException("there are 3 functions");
        }
        return program.keepFunction(new Function(result, one, two));
    }

    private static boolean canBeParameter(Variable variable) {
        return variable == null || !variable.isGlobal && !variable.isArray();
    }

    public int setBody(int function, int statement)
            throws IndexOutOfBoundsException, UnsupportedOperationException {
        Function owner = program.functionAt(function);
        Statement body = program.statementAt(statement);
        if (owner == null || body == null) {
            throw new IndexOutOfBoundsException("no such function or statement");
        }
        if (body.isPart) {
            throw new UnsupportedOperationException("the statement is part of something");
        }
        program.putBody(owner, body);
        return program.bodyCount();
    }

    // Nodes

    public int number(int value, int type) throws IllegalArgumentException, IllegalStateException {
        if (!Numbers.isNumber(type) || !Numbers.has(type, value)) {
            throw new IllegalArgumentException("no number type, or it has not this value");
        }
        refuseNodesBeyondLimit();
        Node node = new Node(NUMBER, FINE, type);
        node.value = value;
        return program.keepNode(node, null, null, null);
    }

    public int name(int variable) throws IndexOutOfBoundsException, IllegalStateException {
        Variable named = program.variableAt(variable);
        if (named == null) {
            throw new IndexOutOfBoundsException("no such variable");
        }
        refuseNodesBeyondLimit();
        Node node = new Node(NAME, FINE, named.isArray() ? POINTER + named.type : named.type);
        node.variable = named;
        return program.keepNode(node, null, null, null);
    }

    public int unary(char kind, int part)
            throws IllegalArgumentException, IndexOutOfBoundsException, UnsupportedOperationException,
            IllegalStateException {
        if (UNARY_KINDS.indexOf(kind) < 0) {
            throw new IllegalArgumentException("no such kind");
        }
        Node first = program.nodeAt(part);
        if (first == null) {
            throw new IndexOutOfBoundsException("no such node");
        }
        int type = Typing.ofUnary(kind, first);
        if (type == NONE || !Program.canJoin(first, null, null)) {
            throw new UnsupportedOperationException("no such node can be");
        }
        refuseNodesBeyondLimit();
        return program.keepNode(new Node(UNARY, kind, type), first, null, null);
    }

    public int cast(int type, int part)
            throws IllegalArgumentException, IndexOutOfBoundsException, UnsupportedOperationException,
            IllegalStateException {
        if (!Numbers.isNumber(type)) {
            throw new IllegalArgumentException("no number type");
        }
        Node first = program.nodeAt(part);
        if (first == null) {
            throw new IndexOutOfBoundsException("no such node");
        }
        if (!Numbers.isNumber(first.type) || !Program.canJoin(first, null, null)) {
            throw new UnsupportedOperationException("no such node can be");
        }
        refuseNodesBeyondLimit();
        return program.keepNode(new Node(CAST, FINE, type), first, null, null);
    }

    public int binary(char kind, int first, int second)
            throws IllegalArgumentException, IndexOutOfBoundsException, UnsupportedOperationException,
            IllegalStateException {
        if (BINARY_KINDS.indexOf(kind) < 0) {
            throw new IllegalArgumentException("no such kind");
        }
        Node one = program.nodeAt(first);
        Node two = program.nodeAt(second);
        if (one == null || two == null) {
            throw new IndexOutOfBoundsException("no such node");
        }
        int type = Typing.ofBinary(kind, one.type, two.type);
        if (type == NONE || !Program.canJoin(one, two, null)) {
            throw new UnsupportedOperationException("no such node can be");
        }
        refuseNodesBeyondLimit();
        return program.keepNode(new Node(BINARY, kind, type), one, two, null);
    }

    public int choose(int condition, int first, int second)
            throws IndexOutOfBoundsException, UnsupportedOperationException, IllegalStateException {
        Node test = program.nodeAt(condition);
        Node one = program.nodeAt(first);
        Node two = program.nodeAt(second);
        if (test == null || one == null || two == null) {
            throw new IndexOutOfBoundsException("no such node");
        }
        int type = Typing.ofChoice(one.type, two.type);
        if (type == NONE || !Program.canJoin(test, one, two)) {
            throw new UnsupportedOperationException("no such node can be");
        }
        refuseNodesBeyondLimit();
        return program.keepNode(new Node(CHOICE, FINE, type), test, one, two);
    }

    public int assign(char kind, int place, int part)
            throws IllegalArgumentException, IndexOutOfBoundsException, UnsupportedOperationException,
            IllegalStateException {
        if (ASSIGN_KINDS.indexOf(kind) < 0) {
            throw new IllegalArgumentException("no such kind");
        }
        Node target = program.nodeAt(place);
        Node given = program.nodeAt(part);
        if (target == null || given == null) {
            throw new IndexOutOfBoundsException("no such node");
        }
        if (!Typing.canAssign(kind, target, given.type) || !Program.canJoin(target, given, null)) {
            throw new UnsupportedOperationException("no such node can be");
        }
        refuseNodesBeyondLimit();
        return program.keepNode(new Node(ASSIGN, kind, target.type), target, given, null);
    }

    public int call(int function, int first, int second)
            throws IndexOutOfBoundsException, UnsupportedOperationException, IllegalStateException {
        Function called = program.functionAt(function);
        Node one = program.nodeAt(first);
        Node two = program.nodeAt(second);
        if (called == null || one == null && first != NONE || two == null && second != NONE) {
            throw new IndexOutOfBoundsException("no such function or node");
        }
        boolean areTaken = Typing.canPass(called.first, one) && Typing.canPass(called.second, two);
        if (!areTaken || !Program.canJoin(one, two, null)) {
            throw new UnsupportedOperationException("no such node can be");
        }
        refuseNodesBeyondLimit();
        Node node = new Node(CALL, FINE, called.result);
        node.function = called;
        return program.keepNode(node, one, two, null);
    }

    private void refuseNodesBeyondLimit() {
        if (program.nodeCount >= MAX_NODES) {
            throw new IllegalStateException("there are 100 nodes");
        }
    }

    public int typeOf(int node) throws IndexOutOfBoundsException {
        Node asked = program.nodeAt(node);
        if (asked == null) {
            throw new IndexOutOfBoundsException("no such node");
        }
        return asked.type;
    }

    // Statements

    public int simple(char kind, int part)
            throws IllegalArgumentException, IndexOutOfBoundsException, UnsupportedOperationException,
            IllegalStateException {
        if (SIMPLE_KINDS.indexOf(kind) < 0) {
            throw new IllegalArgumentException("no such kind");
        }
        Node node = program.nodeAt(part);
        if (node == null) {
            throw new IndexOutOfBoundsException("no such node");
        }
        if (node.isPart || kind != 'e' && !Numbers.isNumber(node.type)) {
            throw new UnsupportedOperationException("no such statement can be");
        }
        refuseStatementsBeyondLimit();
        return program.keepStatement(new Statement(kind, node, null), null, null);
    }

    public int declare(int variable)
            throws IndexOutOfBoundsException, UnsupportedOperationException, IllegalStateException {
        Variable declared = program.variableAt(variable);
        if (declared == null) {
            throw new IndexOutOfBoundsException("no such variable");
        }
        if (declared.isGlobal) {
            throw new UnsupportedOperationException("the variable is global");
        }
        refuseStatementsBeyondLimit();
        return program.keepStatement(new Statement('d', null, declared), null, null);
    }

    public int branch(int condition, int first, int second)
            throws IndexOutOfBoundsException, UnsupportedOperationException, IllegalStateException {
        Node test = program.nodeAt(condition);
        Statement one = program.statementAt(first);
        Statement two = program.statementAt(second);
        if (test == null || one == null || two == null && second != NONE) {
            throw new IndexOutOfBoundsException("no such node or statement");
        }
        return addWhole('i', test, one, two);
    }

    public int repeat(int condition, int body)
            throws IndexOutOfBoundsException, UnsupportedOperationException, IllegalStateException {
        Node test = program.nodeAt(condition);
        Statement repeated = program.statementAt(body);
        if (test == null || repeated == null) {
            throw new IndexOutOfBoundsException("no such node or statement");
        }
        return addWhole('w', test, repeated, null);
    }

    public int then(int first, int second)
            throws IndexOutOfBoundsException, UnsupportedOperationException, IllegalStateException {
        Statement one = program.statementAt(first);
        Statement two = program.statementAt(second);
        if (one == null || two == null) {
            throw new IndexOutOfBoundsException("no such statement");
        }
        return addWhole('s', null, one, two);
    }

    public int block(int body)
            throws IndexOutOfBoundsException, UnsupportedOperationException, IllegalStateException {
        Statement inner = program.statementAt(body);
        if (inner == null) {
            throw new IndexOutOfBoundsException("no such statement");
        }
        return addWhole('b', null, inner, null);
    }

    private int addWhole(char kind, Node node, Statement first, Statement second) {
        if (!Program.canJoinStatements(node, first, second)) {
            throw new UnsupportedOperationException("no such statement can be");
        }
        refuseStatementsBeyondLimit();
        return program.keepStatement(new Statement(kind, node, null), first, second);
    }

    private void refuseStatementsBeyondLimit() {
        if (program.statementCount >= MAX_STATEMENTS) {
            throw new IllegalStateException("there are 60 statements");
        }
    }

    // Runs

    public char run(int order) throws IllegalStateException, IllegalArgumentException {
        refuseProgramWithoutStart();
        refuseNegativeOrder(order);
        machine.perform(program, program.bodies, order, last);
        stepsOfAll += last.stepCount;
        return last.ending;
    }

    public char runOptimised(int order) throws IllegalStateException, IllegalArgumentException {
        refuseProgramWithoutStart();
        refuseNegativeOrder(order);
        optimiser.improve(program);
        machine.perform(program, optimiser.bodies, order, last);
        stepsOfAll += last.stepCount;
        return last.ending;
    }

    private void refuseProgramWithoutStart() {
        if (!program.canStart()) {
            throw new IllegalStateException("the function 0 has no body, or parameters");
        }
    }

    private static void refuseNegativeOrder(int order) {
        if (order < 0) {
            throw new IllegalArgumentException("the order is less than 0");
        }
    }

    public char kindOf() throws NoSuchElementException {
        refuseRunWithMeaning();
        return last.kind;
    }

    public int placeOf() throws NoSuchElementException {
        refuseRunWithMeaning();
        return last.node;
    }

    private void refuseRunWithMeaning() {
        if (last.ending != UNDEFINED) {
            throw new NoSuchElementException("nothing without a meaning");
        }
    }

    public int steps() {
        return last.stepCount;
    }

    public int choices() {
        return last.choiceCount;
    }

    public int printed() {
        return last.length;
    }

    public char printedAt(int index) throws IndexOutOfBoundsException {
        if (index < 0 || index >= last.length) {
            throw new IndexOutOfBoundsException("no such character");
        }
        return last.text[index];
    }

    // Behaviours and optimising

    public int behaviours() throws IllegalStateException {
        refuseProgramWithoutStart();
        gatherOutcomes();
        int count = 0;
        for (int order = 0; order < ORDERS; order++) {
            if (!isAmongFirst(order, outcomes[order])) {
                count++;
            }
        }
        return count;
    }

    public int undefinedOrders() throws IllegalStateException {
        refuseProgramWithoutStart();
        return gatherOutcomes();
    }

    public int optimised() throws IllegalStateException {
        refuseProgramWithoutStart();
        optimiser.improve(program);
        return optimiser.stepCount;
    }

    public int optimisedSize() throws IllegalStateException {
        refuseProgramWithoutStart();
        optimiser.improve(program);
        return optimiser.size;
    }

    public boolean isAsIf() throws IllegalStateException {
        refuseProgramWithoutStart();
        if (gatherOutcomes() > 0) {
            return true;
        }
        optimiser.improve(program);
        for (int order = 0; order < ORDERS; order++) {
            machine.perform(program, optimiser.bodies, order, tried);
            if (!isAmongFirst(ORDERS, tried)) {
                return false;
            }
        }
        return true;
    }

    public float definedShare() throws IllegalStateException {
        refuseProgramWithoutStart();
        return (float) (ORDERS - gatherOutcomes()) / (float) ORDERS;
    }

    public long allSteps() {
        return stepsOfAll;
    }

    /** Runs the program under the orders 0 to 15, and counts those under which it comes to no meaning. */
    private int gatherOutcomes() {
        int undefined = 0;
        for (int order = 0; order < ORDERS; order++) {
            // A run that chose no order goes the same way under each of them.
            if (order > 0 && outcomes[0].choiceCount == 0) {
                outcomes[order].copyFrom(outcomes[0]);
            } else {
                machine.perform(program, program.bodies, order, outcomes[order]);
            }
            if (outcomes[order].ending == UNDEFINED) {
                undefined++;
            }
        }
        return undefined;
    }

    private boolean isAmongFirst(int count, Outcome outcome) {
        for (int order = 0; order < count && order < ORDERS; order++) {
            if (outcomes[order].isSameBehaviour(outcome)) {
                return true;
            }
        }
        return false;
    }

    private static final class Variable {
        int index;
        final int type;
        final int length;
        final boolean isGlobal;

        Variable(int type, int length, boolean isGlobal) {
            this.type = type;
            this.length = length;
            this.isGlobal = isGlobal;
        }

        boolean isArray() {
            return length > 0;
        }

        int parts() {
            return length > 0 ? length : 1;
        }
    }

    private static final class Function {
        int index;
        final int result;
        final Variable first;
        final Variable second;

        Function(int result, Variable first, Variable second) {
            this.result = result;
            this.first = first;
            this.second = second;
        }
    }

    private static final class Node {
        int index;
        int shape;
        char kind;
        int type;
        long value;
        Variable variable;
        Function function;
        Node first;
        Node second;
        Node third;
        int depth;
        int size;
        boolean hasCall;
        boolean isPart;

        Node(int shape, char kind, int type) {
            this.shape = shape;
            this.kind = kind;
            this.type = type;
        }

        /** Parts are kept by the caller, as an optimised node has other ones. */
        void copyFrom(Node other) {
            index = other.index;
            shape = other.shape;
            kind = other.kind;
            type = other.type;
            value = other.value;
            variable = other.variable;
            function = other.function;
        }

        void setParts(Node one, Node two, Node three) {
            first = one;
            second = two;
            third = three;
            depth = 1 + Math.max(depthOf(one), Math.max(depthOf(two), depthOf(three)));
            size = 1 + sizeOf(one) + sizeOf(two) + sizeOf(three);
            hasCall = shape == CALL || isCalling(one) || isCalling(two) || isCalling(three);
        }

        static int depthOf(Node node) {
            return node == null ? 0 : node.depth;
        }

        static int sizeOf(Node node) {
            return node == null ? 0 : node.size;
        }

        static boolean isCalling(Node node) {
            return node != null && node.hasCall;
        }

        static boolean isTold(Node node) {
            return node != null && node.shape == NUMBER;
        }

        boolean isPlace() {
            return shape == NAME && variable != null && !variable.isArray() || shape == UNARY && kind == '*';
        }

        boolean takesPlace() {
            return shape == ASSIGN || shape == UNARY && "&idID".indexOf(kind) >= 0;
        }

        boolean isUnsequenced() {
            return shape == ASSIGN || shape == CALL || shape == BINARY && SEQUENCED_KINDS.indexOf(kind) < 0;
        }

        boolean isChosen() {
            return isUnsequenced() && isCalling(first) && isCalling(second);
        }

        /** A place is not evaluated itself, but only the pointer that leads to it. */
        Node firstToEvaluate() {
            if (first == null || !takesPlace()) {
                return first;
            }
            return first.shape == UNARY ? first.first : null;
        }

        Node secondToEvaluate(long valueOfFirst) {
            if (shape == CHOICE) {
                return valueOfFirst != 0 ? second : third;
            }
            if (shape == BINARY && (kind == 'a' || kind == 'o')) {
                return decides(valueOfFirst) ? null : second;
            }
            return second;
        }

        boolean decides(long valueOfFirst) {
            return (kind == 'o') == (valueOfFirst != 0);
        }

        /** Whether it is reckoned from the values of its parts alone, as numbers. */
        boolean isReckoned() {
            switch (shape) {
                case CAST: return true;
                case UNARY: return kind == '-' || kind == '~' || kind == '!';
                case BINARY: return isUnsequenced() && first != null && Numbers.isNumber(first.type);
                default: return false;
            }
        }

        private boolean isShift() {
            return kind == 'l' || kind == 'r';
        }

        /** The type to which both numbers are converted; a shift leaves the second one alone. */
        private int operandType() {
            if (first == null || second == null) {
                return type;
            }
            return isShift() ? Numbers.promoted(first.type) : Numbers.common(first.type, second.type);
        }

        char faultOf(long x, long y) {
            if (shape == UNARY && kind == '-') {
                return Numbers.faultOf('-', type, 0, x);
            }
            if (shape != BINARY) {
                return FINE;
            }
            int operands = operandType();
            return Numbers.faultOf(kind, operands, Numbers.convert(x, operands),
                    isShift() ? y : Numbers.convert(y, operands));
        }

        long resultOf(long x, long y) {
            if (shape == CAST) {
                return Numbers.convert(x, type);
            }
            if (shape == UNARY) {
                if (kind == '!') {
                    return x == 0 ? 1 : 0;
                }
                return Numbers.convert(kind == '-' ? -x : ~x, type);
            }
            int operands = operandType();
            return Numbers.resultOf(kind, operands, Numbers.convert(x, operands),
                    isShift() ? y : Numbers.convert(y, operands));
        }
    }

    private static final class Statement {
        int index;
        char kind;
        Node node;
        Variable variable;
        Statement first;
        Statement second;
        int depth;
        int size;
        boolean isPart;

        Statement(char kind, Node node, Variable variable) {
            this.kind = kind;
            this.node = node;
            this.variable = variable;
        }

        void setParts(Statement one, Statement two) {
            first = one;
            second = two;
            depth = 1 + Math.max(depthOf(one), depthOf(two));
            size = 1 + Node.sizeOf(node) + sizeOf(one) + sizeOf(two);
        }

        static int depthOf(Statement statement) {
            return statement == null ? 0 : statement.depth;
        }

        static int sizeOf(Statement statement) {
            return statement == null ? 0 : statement.size;
        }
    }

    /** The types 0 to 5, their values, and what is reckoned with two numbers of one type. */
    private static final class Numbers {
        static boolean isNumber(int type) {
            return type >= 0 && type <= 5;
        }

        static boolean isType(int type) {
            return isNumber(type) || type >= POINTER && isNumber(type - POINTER);
        }

        static boolean has(int type, long value) {
            return convert(value, type) == value;
        }

        /** The numbers of types come in pairs of as many bits, a signed one ahead of one without a sign. */
        static long convert(long value, int type) {
            int spare = 64 - (8 << (type >> 1));
            return (type & 1) == 0 ? value << spare >> spare : value << spare >>> spare;
        }

        static int promoted(int type) {
            return Math.max(type, PROMOTED);
        }

        /** More bits, and of as many those without a sign, come later among the numbers of types. */
        static int common(int first, int second) {
            return Math.max(PROMOTED, Math.max(first, second));
        }

        static char faultOf(char kind, int type, long x, long y) {
            if ((kind == 'l' || kind == 'r') && (y < 0 || y >= 8 << (type >> 1))) {
                return 's';
            }
            if ((kind == '/' || kind == '%') && y == 0) {
                return 'z';
            }
            boolean isAlwaysFine = (type & 1) != 0 || kind == 'r' || kind == '<' || kind == '=';
            long raw = rawOf(kind, x, y);
            if (isAlwaysFine || convert(raw, type) == raw && !(kind == 'l' && x < 0)) {
                return FINE;
            }
            return kind == 'l' ? 's' : 'o';
        }

        static long resultOf(char kind, int type, long x, long y) {
            long raw = rawOf(kind, x, y);
            return kind == '<' || kind == '=' ? raw : convert(raw, type);
        }

        private static long rawOf(char kind, long x, long y) {
            switch (kind) {
                case '+': return x + y;
                case '-': return x - y;
                case '*': return x * y;
                case '/': return y == 0 ? 0 : x / y;
                case '%': return y == 0 ? 0 : x % y;
                case '&': return x & y;
                case '|': return x | y;
                case '^': return x ^ y;
                case 'l': return x << y;
                case 'r': return x >> y;
                case '<': return x < y ? 1 : 0;
                case '=': return x == y ? 1 : 0;
                default: return 0;
            }
        }
    }

    /** The types of nodes by those of their parts; NONE where they do not fit. */
    private static final class Typing {
        static int ofUnary(char kind, Node part) {
            boolean isNumber = Numbers.isNumber(part.type);
            switch (kind) {
                case '-':
                case '~': return isNumber ? Numbers.promoted(part.type) : NONE;
                case '!': return PROMOTED;
                case '*': return isNumber ? NONE : part.type - POINTER;
                case '&': return isNumber && part.isPlace() ? POINTER + part.type : NONE;
                default: return part.isPlace() ? part.type : NONE;
            }
        }

        static int ofBinary(char kind, int first, int second) {
            boolean areNumbers = Numbers.isNumber(first) && Numbers.isNumber(second);
            switch (kind) {
                case ',': return second;
                case 'a':
                case 'o': return PROMOTED;
                case '<':
                case '=': return areNumbers || first == second ? PROMOTED : NONE;
                case 'l':
                case 'r': return areNumbers ? Numbers.promoted(first) : NONE;
                default: break;
            }
            if (areNumbers) {
                return Numbers.common(first, second);
            }
            boolean isMove = (kind == '+' || kind == '-') && Numbers.isNumber(second);
            return isMove ? first : NONE;
        }

        static int ofChoice(int first, int second) {
            if (Numbers.isNumber(first) && Numbers.isNumber(second)) {
                return Numbers.common(first, second);
            }
            return first == second ? first : NONE;
        }

        static boolean canAssign(char kind, Node place, int given) {
            if (!place.isPlace()) {
                return false;
            }
            boolean isPointerDue = kind == 's' && !Numbers.isNumber(place.type);
            return isPointerDue ? given == place.type : Numbers.isNumber(given);
        }

        static boolean canPass(Variable parameter, Node part) {
            if (parameter == null || part == null) {
                return parameter == null && part == null;
            }
            return Numbers.isNumber(parameter.type) ? Numbers.isNumber(part.type) : part.type == parameter.type;
        }
    }

    /** What has been written so far, whether it is part of a body or not. */
    private static final class Program {
        final Variable[] variables = new Variable[MAX_VARIABLES];
        final Function[] functions = new Function[MAX_FUNCTIONS];
        final Statement[] bodies = new Statement[MAX_FUNCTIONS];
        final Node[] nodes = new Node[MAX_NODES];
        final Statement[] statements = new Statement[MAX_STATEMENTS];
        int variableCount;
        int functionCount;
        int nodeCount;
        int statementCount;

        Variable variableAt(int index) {
            return index >= 0 && index < variableCount && index < variables.length ? variables[index] : null;
        }

        Function functionAt(int index) {
            return index >= 0 && index < functionCount && index < functions.length ? functions[index] : null;
        }

        Node nodeAt(int index) {
            return index >= 0 && index < nodeCount && index < nodes.length ? nodes[index] : null;
        }

        Statement statementAt(int index) {
            return index >= 0 && index < statementCount && index < statements.length ? statements[index] : null;
        }

        int keepVariable(Variable variable) {
            if (variableCount >= variables.length) {
                return NONE;
            }
            variable.index = variableCount;
            variables[variableCount++] = variable;
            return variable.index;
        }

        int keepFunction(Function function) {
            if (functionCount >= functions.length) {
                return NONE;
            }
            function.index = functionCount;
            functions[functionCount++] = function;
            return function.index;
        }

        int keepNode(Node node, Node first, Node second, Node third) {
            if (nodeCount >= nodes.length) {
                return NONE;
            }
            node.setParts(first, second, third);
            take(first);
            take(second);
            take(third);
            node.index = nodeCount;
            nodes[nodeCount++] = node;
            return node.index;
        }

        int keepStatement(Statement statement, Statement first, Statement second) {
            if (statementCount >= statements.length) {
                return NONE;
            }
            statement.setParts(first, second);
            take(statement.node);
            takeStatement(first);
            takeStatement(second);
            statement.index = statementCount;
            statements[statementCount++] = statement;
            return statement.index;
        }

        private static void take(Node part) {
            if (part != null) {
                part.isPart = true;
            }
        }

        private static void takeStatement(Statement part) {
            if (part != null) {
                part.isPart = true;
            }
        }

        /** Whether these, of which some may not be there, can be the parts of one more node. */
        static boolean canJoin(Node first, Node second, Node third) {
            boolean areUnlike = first == null || first != second && first != third;
            if (second != null && second == third) {
                areUnlike = false;
            }
            int deepest = Math.max(Node.depthOf(first), Math.max(Node.depthOf(second), Node.depthOf(third)));
            return areUnlike && isFree(first) && isFree(second) && isFree(third) && deepest < MAX_DEPTH;
        }

        static boolean canJoinStatements(Node node, Statement first, Statement second) {
            boolean areUnlike = first == null || first != second;
            boolean areFree = isFree(node) && isFreeStatement(first) && isFreeStatement(second);
            int deepest = Math.max(Statement.depthOf(first), Statement.depthOf(second));
            return areUnlike && areFree && deepest < MAX_DEPTH;
        }

        private static boolean isFree(Node part) {
            return part == null || !part.isPart;
        }

        private static boolean isFreeStatement(Statement part) {
            return part == null || !part.isPart;
        }

        void putBody(Function function, Statement body) {
            if (function.index < 0 || function.index >= bodies.length) {
                return;
            }
            Statement earlier = bodies[function.index];
            if (earlier != null) {
                earlier.isPart = false;
            }
            body.isPart = true;
            bodies[function.index] = body;
        }

        int bodyCount() {
            int count = 0;
            for (int function = 0; function < bodies.length; function++) {
                if (bodies[function] != null) {
                    count++;
                }
            }
            return count;
        }

        boolean canStart() {
            Function start = functionAt(0);
            return start != null && start.first == null && bodies[0] != null;
        }
    }

    /** How a run ended, and what it printed until then. */
    private static final class Outcome {
        char ending = GOING;
        char kind = FINE;
        int node;
        int stepCount;
        int choiceCount;
        int length;
        final char[] text = new char[MAX_PRINTED];

        void clear() {
            ending = GOING;
            kind = FINE;
            node = NONE;
            stepCount = 0;
            choiceCount = 0;
            length = 0;
        }

        void copyFrom(Outcome other) {
            ending = other.ending;
            kind = other.kind;
            node = other.node;
            stepCount = other.stepCount;
            choiceCount = other.choiceCount;
            length = other.length;
            for (int index = 0; index < length && index < text.length; index++) {
                text[index] = other.text[index];
            }
        }

        void print(char character) {
            if (length < text.length) {
                text[length++] = character;
            }
        }

        boolean isSameBehaviour(Outcome other) {
            if (ending != other.ending || kind != other.kind || length != other.length) {
                return false;
            }
            for (int index = 0; index < length && index < text.length; index++) {
                if (text[index] != other.text[index]) {
                    return false;
                }
            }
            return true;
        }
    }

    /**
     * Lives of objects, and a log of which of their parts were read or written.
     * A pointer is 0 if it is null, and otherwise 1 more than the number of a cell. A life has a cell for each part
     * and one more behind the last one. Neither lives nor cells are used again within a run, so that a pointer to a
     * life that ended is known for what it is.
     */
    private static final class Memory {
        /**
         * A life costs two steps or more: 'd', and the 's' or the condition that stands ahead of it and of no other
         * 'd'; or, for two parameters, a call with its parts and its return. Only the calls that are still open have
         * theirs for less, and they are few.
         */
        private static final int MAX_LIVES = MAX_VARIABLES + MAX_STEPS / 2 + 4 * MAX_CALLS;
        private static final int MAX_CELLS = (MAX_LENGTH + 1) * MAX_LIVES;
        /** Each step reads and writes one part at most, or writes two parameters. */
        private static final int MAX_LOGGED = 2 * MAX_STEPS;

        private final int[] firstCell = new int[MAX_LIVES];
        private final int[] lastCell = new int[MAX_LIVES];
        private final boolean[] isAlive = new boolean[MAX_LIVES];
        private final int[] owner = new int[MAX_CELLS];
        private final long[] values = new long[MAX_CELLS];
        private final boolean[] isDetermined = new boolean[MAX_CELLS];
        private final int[] loggedCell = new int[MAX_LOGGED];
        private final boolean[] loggedWrite = new boolean[MAX_LOGGED];
        private int lifeCount;
        private int cellCount;
        private int logCount;

        void clear() {
            lifeCount = 0;
            cellCount = 0;
            logCount = 0;
        }

        int lives() {
            return lifeCount;
        }

        int bear(int parts) {
            if (lifeCount >= MAX_LIVES || parts < 0 || parts >= MAX_CELLS - cellCount) {
                return NONE;
            }
            firstCell[lifeCount] = cellCount;
            lastCell[lifeCount] = cellCount + parts;
            isAlive[lifeCount] = true;
            for (int part = 0; part <= parts; part++) {
                owner[cellCount] = lifeCount;
                isDetermined[cellCount] = false;
                cellCount++;
            }
            return lifeCount++;
        }

        void end(int life) {
            if (life >= 0 && life < lifeCount) {
                isAlive[life] = false;
            }
        }

        void endSince(int life) {
            for (int each = Math.max(life, 0); each < lifeCount; each++) {
                isAlive[each] = false;
            }
        }

        private boolean isCell(long cell) {
            return cell >= 0 && cell < cellCount;
        }

        long pointerTo(int life) {
            return life >= 0 && life < lifeCount ? firstCell[life] + 1 : 0;
        }

        /** NONE for null. */
        int lifeOf(long pointer) {
            return pointer > 0 && pointer <= cellCount ? owner[(int) pointer - 1] : NONE;
        }

        boolean isLiving(long pointer) {
            int life = lifeOf(pointer);
            return life >= 0 && life < lifeCount && isAlive[life];
        }

        char faultOfUsing(long pointer, boolean isRead) {
            int life = lifeOf(pointer);
            if (life < 0 || life >= lifeCount || !isAlive[life]) {
                return 'd';
            }
            int cell = (int) pointer - 1;
            if (cell < 0 || cell >= lastCell[life]) {
                return 'b';
            }
            return isRead && !isDetermined[cell] ? 'i' : FINE;
        }

        char faultOfMoving(long pointer, long by) {
            int life = lifeOf(pointer);
            if (life < 0 || life >= lifeCount || !isAlive[life]) {
                return 'd';
            }
            long cell = pointer - 1 + by;
            return cell >= firstCell[life] && cell <= lastCell[life] ? FINE : 'b';
        }

        long read(long pointer) {
            if (!isCell(pointer - 1)) {
                return 0;
            }
            log((int) pointer - 1, false);
            return values[(int) pointer - 1];
        }

        void write(long pointer, long value) {
            if (isCell(pointer - 1)) {
                log((int) pointer - 1, true);
                values[(int) pointer - 1] = value;
                isDetermined[(int) pointer - 1] = true;
            }
        }

        private void log(int cell, boolean isWrite) {
            if (logCount < MAX_LOGGED) {
                loggedCell[logCount] = cell;
                loggedWrite[logCount] = isWrite;
                logCount++;
            }
        }

        int logged() {
            return logCount;
        }

        void forgetSince(int mark) {
            logCount = Math.max(0, Math.min(mark, logCount));
        }

        /** Whether what was logged from start to middle and what was since then touch one part, one by writing. */
        boolean isClash(int start, int middle) {
            for (int one = Math.max(start, 0); one < middle && one < logCount; one++) {
                for (int two = Math.max(middle, 0); two < logCount; two++) {
                    if (loggedCell[one] == loggedCell[two] && (loggedWrite[one] || loggedWrite[two])) {
                        return true;
                    }
                }
            }
            return false;
        }

        boolean isWrittenSince(int start, long pointer) {
            for (int index = Math.max(start, 0); index < logCount; index++) {
                if (loggedCell[index] == pointer - 1 && loggedWrite[index]) {
                    return true;
                }
            }
            return false;
        }
    }

    /** Runs bodies. Numbers and pointers are both kept as long, with 0 for a condition that does not hold. */
    private static final class Machine {
        private final Memory memory = new Memory();
        /** For each open call a row of the lives that the variables have in it; row 0 is that of global ones. */
        private final int[] rows = new int[(MAX_CALLS + 1) * MAX_VARIABLES];
        private Statement[] bodies;
        private Outcome outcome;
        private int order;
        private int depth;
        private boolean isReturning;
        private long returned;

        void perform(Program program, Statement[] performed, int underOrder, Outcome into) {
            bodies = performed;
            order = underOrder;
            outcome = into;
            outcome.clear();
            memory.clear();
            isReturning = false;
            openRow(0);
            for (int index = 0; index < MAX_VARIABLES; index++) {
                Variable variable = program.variableAt(index);
                if (variable != null && variable.isGlobal) {
                    bring(variable);
                }
            }
            openRow(1);
            execute(bodyOf(0));
            if (!isOver()) {
                outcome.ending = NORMAL;
            }
        }

        private Statement bodyOf(int function) {
            return function >= 0 && function < bodies.length ? bodies[function] : null;
        }

        private boolean isOver() {
            return outcome.ending != GOING;
        }

        private boolean takeStep() {
            if (isOver()) {
                return false;
            }
            if (outcome.stepCount >= MAX_STEPS) {
                outcome.ending = LIMIT;
                return false;
            }
            outcome.stepCount++;
            return true;
        }

        private long fail(char kind, Node node) {
            outcome.ending = UNDEFINED;
            outcome.kind = kind;
            outcome.node = node.index;
            return 0;
        }

        // execute, evaluate and enter are the only ones that go deeper: at most 8 calls of 12 statements in one
        // another and 12 nodes in one another are open at once, each of them with one of these methods.

        private void execute(Statement statement) {
            if (statement == null || !takeStep()) {
                return;
            }
            switch (statement.kind) {
                case 'e':
                    evaluate(statement.node);
                    break;
                case 'p':
                    print(evaluate(statement.node));
                    break;
                case 'd':
                    bring(statement.variable);
                    break;
                case 'i':
                    execute(evaluate(statement.node) != 0 ? statement.first : statement.second);
                    break;
                case 'w':
                    for (int turn = 0; turn <= MAX_STEPS && evaluate(statement.node) != 0; turn++) {
                        execute(statement.first);
                        if (isReturning) {
                            break;
                        }
                    }
                    break;
                case 's':
                    execute(statement.first);
                    if (!isReturning) {
                        execute(statement.second);
                    }
                    break;
                case 'b':
                    int mark = memory.lives();
                    execute(statement.first);
                    memory.endSince(mark);
                    break;
                case 'r':
                    returned = evaluate(statement.node);
                    isReturning = true;
                    break;
                default:
                    break;
            }
        }

        /** Gives 0 if the run is over, so that no loop or condition goes on then. */
        private long evaluate(Node node) {
            if (node == null || !takeStep()) {
                return 0;
            }
            int start = memory.logged();
            int middle;
            long x;
            long y;
            if (node.isChosen() && isSecondAhead()) {
                y = evaluate(node.second);
                middle = memory.logged();
                x = evaluate(node.firstToEvaluate());
            } else {
                x = evaluate(node.firstToEvaluate());
                middle = memory.logged();
                y = evaluate(node.secondToEvaluate(x));
            }
            if (isOver()) {
                return 0;
            }
            if (node.isUnsequenced() && memory.isClash(start, middle)) {
                return fail('u', node);
            }
            if (node.shape == CALL) {
                return enter(node, x, y);
            }
            if (node.takesPlace()) {
                return finishAtPlace(node, x, y, start);
            }
            return node.isReckoned() ? reckon(node, x, y) : finish(node, x, y);
        }

        private long enter(Node node, long x, long y) {
            if (depth >= MAX_CALLS || node.function == null) {
                outcome.ending = LIMIT;
                return 0;
            }
            int firstLife = memory.lives();
            int mark = memory.logged();
            openRow(depth + 1);
            bringWith(node.function.first, x);
            bringWith(node.function.second, y);
            execute(bodyOf(node.function.index));
            boolean hasReturned = isReturning;
            isReturning = false;
            depth--;
            memory.endSince(firstLife);
            memory.forgetSince(mark);
            if (isOver()) {
                return 0;
            }
            return hasReturned ? Numbers.convert(returned, node.function.result) : fail('i', node);
        }

        private boolean isSecondAhead() {
            int bit = outcome.choiceCount % CHOICE_BITS;
            outcome.choiceCount++;
            return (order >> bit & 1) != 0;
        }

        private long reckon(Node node, long x, long y) {
            char fault = node.faultOf(x, y);
            return fault == FINE ? node.resultOf(x, y) : fail(fault, node);
        }

        private long finish(Node node, long x, long y) {
            switch (node.shape) {
                case NUMBER: return node.value;
                case NAME: return finishName(node, pointerTo(node.variable));
                case UNARY: return read(node, x);
                case BINARY: return finishBinary(node, x, y);
                case CHOICE: return converted(y, node.type);
                default: return 0;
            }
        }

        private long finishName(Node node, long pointer) {
            if (node.isPlace()) {
                return read(node, pointer);
            }
            return memory.isLiving(pointer) ? pointer : fail('d', node);
        }

        private long finishBinary(Node node, long x, long y) {
            switch (node.kind) {
                case ',': return y;
                case 'a': return x != 0 && y != 0 ? 1 : 0;
                case 'o': return x != 0 || y != 0 ? 1 : 0;
                case '=': return x == y ? 1 : 0;
                case '<': return memory.lifeOf(x) != memory.lifeOf(y) ? fail('p', node) : x < y ? 1 : 0;
                case '-': return move(node, x, -y);
                default: return move(node, x, y);
            }
        }

        private long finishAtPlace(Node node, long pointer, long given, int start) {
            boolean isName = node.first != null && node.first.shape == NAME;
            long place = isName ? pointerTo(node.first.variable) : pointer;
            if (node.kind == '&') {
                return isName && !memory.isLiving(place) ? fail('d', node) : place;
            }
            if (memory.isWrittenSince(start, place)) {
                return fail('u', node);
            }
            if (node.kind == 's') {
                return write(node, place, converted(given, node.type));
            }
            long before = read(node, place);
            long after = changed(node, before, node.kind == 'p' ? given : 1);
            long written = write(node, place, after);
            boolean isOldDue = node.kind == 'I' || node.kind == 'D';
            return isOldDue && !isOver() ? before : written;
        }

        private long changed(Node node, long before, long by) {
            if (isOver()) {
                return 0;
            }
            char sign = node.kind == 'd' || node.kind == 'D' ? '-' : '+';
            if (!Numbers.isNumber(node.type)) {
                return move(node, before, sign == '-' ? -by : by);
            }
            int type = Numbers.common(node.type, node.second == null ? PROMOTED : node.second.type);
            long x = Numbers.convert(before, type);
            long y = Numbers.convert(by, type);
            char fault = Numbers.faultOf(sign, type, x, y);
            if (fault != FINE) {
                return fail(fault, node);
            }
            return Numbers.convert(Numbers.resultOf(sign, type, x, y), node.type);
        }

        private static long converted(long value, int type) {
            return Numbers.isNumber(type) ? Numbers.convert(value, type) : value;
        }

        private long move(Node node, long pointer, long by) {
            char fault = memory.faultOfMoving(pointer, by);
            return fault == FINE ? pointer + by : fail(fault, node);
        }

        private long read(Node node, long pointer) {
            char fault = memory.faultOfUsing(pointer, true);
            return fault == FINE ? memory.read(pointer) : fail(fault, node);
        }

        private long write(Node node, long pointer, long value) {
            if (isOver()) {
                return 0;
            }
            char fault = memory.faultOfUsing(pointer, false);
            if (fault != FINE) {
                return fail(fault, node);
            }
            memory.write(pointer, value);
            return value;
        }

        private void openRow(int row) {
            depth = row;
            for (int index = 0; index < MAX_VARIABLES; index++) {
                int slot = row * MAX_VARIABLES + index;
                if (slot >= 0 && slot < rows.length) {
                    rows[slot] = NONE;
                }
            }
        }

        private int slotOf(Variable variable) {
            int slot = (variable.isGlobal ? 0 : depth * MAX_VARIABLES) + variable.index;
            return slot >= 0 && slot < rows.length ? slot : NONE;
        }

        private long pointerTo(Variable variable) {
            int slot = variable == null ? NONE : slotOf(variable);
            return slot == NONE ? 0 : memory.pointerTo(rows[slot]);
        }

        private void bring(Variable variable) {
            int slot = variable == null ? NONE : slotOf(variable);
            if (slot != NONE) {
                memory.end(rows[slot]);
                rows[slot] = memory.bear(variable.parts());
            }
        }

        private void bringWith(Variable parameter, long value) {
            if (parameter != null) {
                bring(parameter);
                memory.write(pointerTo(parameter), converted(value, parameter.type));
            }
        }

        private void print(long value) {
            if (isOver()) {
                return;
            }
            if (value < 0) {
                outcome.print('-');
            }
            long rest = Math.abs(value);
            boolean hasBegun = false;
            for (long scale = 1000000000L; scale > 0; scale /= 10) {
                int digit = (int) (rest / scale % 10);
                hasBegun = hasBegun || digit != 0 || scale == 1;
                if (hasBegun) {
                    outcome.print((char) ('0' + digit));
                }
            }
            outcome.print(' ');
        }
    }

    /** Makes the optimised program in nodes and statements of its own, which it uses again each time. */
    private static final class Optimiser {
        final Statement[] bodies = new Statement[MAX_FUNCTIONS];
        int stepCount;
        int size;
        private final Node[] nodes = new Node[MAX_NODES];
        private final Statement[] statements = new Statement[MAX_STATEMENTS];
        private final Node[] became = new Node[MAX_NODES];
        private final Statement[] statementBecame = new Statement[MAX_STATEMENTS];
        private final boolean[] isUsed = new boolean[MAX_NODES];
        private final boolean[] isStatementUsed = new boolean[MAX_STATEMENTS];

        Optimiser() {
            for (int index = 0; index < MAX_NODES; index++) {
                nodes[index] = new Node(NUMBER, FINE, 0);
            }
            for (int index = 0; index < MAX_STATEMENTS; index++) {
                statements[index] = new Statement('e', null, null);
            }
        }

        /** Parts have lower numbers than what they are part of, so that each whole comes behind its parts. */
        void improve(Program program) {
            stepCount = 0;
            size = 0;
            markUsed(program);
            for (int index = 0; index < program.nodeCount && index < MAX_NODES; index++) {
                if (isUsed[index]) {
                    became[index] = reduce(copyOf(program.nodeAt(index), nodes[index]));
                }
            }
            for (int index = 0; index < program.statementCount && index < MAX_STATEMENTS; index++) {
                if (isStatementUsed[index]) {
                    statementBecame[index] =
                            reduceStatement(copyOfStatement(program.statementAt(index), statements[index]));
                }
            }
            for (int function = 0; function < MAX_FUNCTIONS; function++) {
                bodies[function] = shortened(program.bodies[function]);
                size += Statement.sizeOf(bodies[function]);
            }
        }

        private void markUsed(Program program) {
            for (int index = 0; index < MAX_NODES; index++) {
                isUsed[index] = false;
            }
            for (int index = 0; index < MAX_STATEMENTS; index++) {
                isStatementUsed[index] = false;
            }
            for (int function = 0; function < MAX_FUNCTIONS; function++) {
                useStatement(program.bodies[function]);
            }
            for (int index = MAX_STATEMENTS - 1; index >= 0; index--) {
                Statement statement = program.statementAt(index);
                if (statement != null && isStatementUsed[index]) {
                    use(statement.node);
                    useStatement(statement.first);
                    useStatement(statement.second);
                }
            }
            for (int index = MAX_NODES - 1; index >= 0; index--) {
                Node node = program.nodeAt(index);
                if (node != null && isUsed[index]) {
                    use(node.first);
                    use(node.second);
                    use(node.third);
                }
            }
        }

        private void use(Node node) {
            if (node != null && node.index >= 0 && node.index < MAX_NODES) {
                isUsed[node.index] = true;
            }
        }

        private void useStatement(Statement statement) {
            if (statement != null && statement.index >= 0 && statement.index < MAX_STATEMENTS) {
                isStatementUsed[statement.index] = true;
            }
        }

        private Node copyOf(Node source, Node copy) {
            if (source != null) {
                copy.copyFrom(source);
                copy.setParts(folded(source.first), folded(source.second), folded(source.third));
            }
            return copy;
        }

        private Statement copyOfStatement(Statement source, Statement copy) {
            if (source != null) {
                copy.index = source.index;
                copy.kind = source.kind;
                copy.variable = source.variable;
                copy.node = folded(source.node);
                copy.setParts(shortened(source.first), shortened(source.second));
            }
            return copy;
        }

        private Node folded(Node part) {
            return part != null && part.index >= 0 && part.index < MAX_NODES ? became[part.index] : null;
        }

        private Statement shortened(Statement part) {
            boolean isThere = part != null && part.index >= 0 && part.index < MAX_STATEMENTS;
            return isThere ? statementBecame[part.index] : null;
        }

        private Node reduce(Node node) {
            if (!Node.isTold(node.first)) {
                return node;
            }
            long value = node.first.value;
            if (node.shape == CHOICE) {
                return take(node, value != 0 ? node.second : node.third);
            }
            if (node.shape == BINARY && node.kind == ',') {
                stepCount++;
                return node.second;
            }
            if (node.shape == BINARY && (node.kind == 'a' || node.kind == 'o')) {
                return node.decides(value) ? tell(node, value != 0 ? 1 : 0) : node;
            }
            if (!node.isReckoned() || node.second != null && !Node.isTold(node.second)) {
                return node;
            }
            long other = node.second == null ? 0 : node.second.value;
            return node.faultOf(value, other) == FINE ? tell(node, node.resultOf(value, other)) : node;
        }

        private Node tell(Node node, long value) {
            stepCount++;
            node.shape = NUMBER;
            node.value = value;
            node.setParts(null, null, null);
            return node;
        }

        private Node take(Node node, Node taken) {
            stepCount++;
            if (taken == null || !Numbers.isNumber(node.type)) {
                return taken;
            }
            node.shape = CAST;
            node.setParts(taken, null, null);
            return Node.isTold(taken) ? tell(node, Numbers.convert(taken.value, node.type)) : node;
        }

        /** Gives null for a statement that becomes nothing. */
        private Statement reduceStatement(Statement statement) {
            boolean isTold = Node.isTold(statement.node);
            boolean isHolding = isTold && statement.node.value != 0;
            switch (statement.kind) {
                case 'e':
                    return isTold ? shorten(null) : statement;
                case 'i':
                    return isTold ? shorten(isHolding ? statement.first : statement.second) : statement;
                case 'w':
                    return isTold && !isHolding ? shorten(null) : statement;
                case 's':
                    if (statement.first != null && statement.second != null) {
                        return statement;
                    }
                    return shorten(statement.first != null ? statement.first : statement.second);
                case 'b':
                    return statement.first == null ? shorten(null) : statement;
                default:
                    return statement;
            }
        }

        private Statement shorten(Statement left) {
            stepCount++;
            return left;
        }
    }
}
