import java.math.BigInteger;
import java.util.ArrayList;
import java.util.HashMap;
import java.util.HashSet;
import java.util.List;
import java.util.Map;
import java.util.NoSuchElementException;
import java.util.Set;

/**
 * The document once more, written apart from the program and in another way (trees, sets, big integers), so that
 * random runs of calls can be held against both.
 */
final class Model {
    private record Var(int type, int length, boolean global) { }

    private record Fun(int result, int[] params) { }

    private record Tree(String op, int type, BigInteger value, int var, int fun, int id, List<Tree> parts) {
        int deep() {
            int most = 0;
            for (Tree part : parts) {
                most = Math.max(most, part.deep());
            }
            return most + 1;
        }

        int count() {
            int all = 1;
            for (Tree part : parts) {
                all += part.count();
            }
            return all;
        }

        boolean calls() {
            boolean any = op.equals("call");
            for (Tree part : parts) {
                any |= part.calls();
            }
            return any;
        }

        Tree with(List<Tree> others) {
            return new Tree(op, type, value, var, fun, id, others);
        }
    }

    private record Stat(char kind, Tree node, int var, List<Stat> parts, int id) {
        int deep() {
            int most = 0;
            for (Stat part : parts) {
                most = part == null ? most : Math.max(most, part.deep());
            }
            return most + 1;
        }

        int count() {
            int all = 1 + (node == null ? 0 : node.count());
            for (Stat part : parts) {
                all += part == null ? 0 : part.count();
            }
            return all;
        }
    }

    private record Pointer(int life, int part) { }

    private record Behaviour(char end, char kind, String text) { }

    private static final class Stop extends RuntimeException {
        private static final long serialVersionUID = 1;
        final char end;
        final char kind;
        final int node;

        Stop(char end, char kind, int node) {
            super(null, null, false, false);
            this.end = end;
            this.kind = kind;
            this.node = node;
        }
    }

    private final List<Var> vars = new ArrayList<>();
    private final List<Fun> funs = new ArrayList<>();
    private final List<Tree> nodes = new ArrayList<>();
    private final List<Stat> stats = new ArrayList<>();
    private final Set<Integer> takenNodes = new HashSet<>();
    private final Set<Integer> takenStats = new HashSet<>();
    private final Map<Integer, Stat> bodies = new HashMap<>();
    private Run last;
    private long allSteps;

    // Types

    private static boolean num(int type) {
        return type >= 0 && type <= 5;
    }

    private static int width(int type) {
        return type < 2 ? 8 : type < 4 ? 16 : 32;
    }

    private static boolean signed(int type) {
        return type == 0 || type == 2 || type == 4;
    }

    private static boolean fits(BigInteger value, int type) {
        BigInteger span = BigInteger.ONE.shiftLeft(width(type));
        BigInteger low = signed(type) ? span.shiftRight(1).negate() : BigInteger.ZERO;
        return value.compareTo(low) >= 0 && value.compareTo(low.add(span)) < 0;
    }

    private static BigInteger conv(BigInteger value, int type) {
        if (fits(value, type)) {
            return value;
        }
        BigInteger span = BigInteger.ONE.shiftLeft(width(type));
        BigInteger low = value.mod(span);
        return fits(low, type) ? low : low.subtract(span);
    }

    private static int prom(int type) {
        return type == 0 || type == 1 ? 2 : type;
    }

    private static int one(int first, int second) {
        int a = prom(first);
        int b = prom(second);
        if (a == b) {
            return a;
        }
        if (width(a) != width(b)) {
            return width(a) > width(b) ? a : b;
        }
        return signed(a) ? b : a;
    }

    // Building

    int addVariable(int type, int length, boolean global) {
        boolean known = num(type) || type >= 10 && type <= 15;
        if (!known || length < 0 || length > 8 || length > 0 && type >= 10) {
            throw new IllegalArgumentException();
        }
        if (vars.size() == 10) {
            throw new IllegalStateException();
        }
        vars.add(new Var(type, length, global));
        return vars.size() - 1;
    }

    int addFunction(int result, int first, int second) {
        if (!num(result) || first == -1 && second != -1) {
            throw new IllegalArgumentException();
        }
        for (int param : new int[] {first, second}) {
            if (param < -1 || param >= vars.size()) {
                throw new IndexOutOfBoundsException();
            }
        }
        for (int param : new int[] {first, second}) {
            if (param != -1 && (vars.get(param).global || vars.get(param).length > 0)) {
                throw new UnsupportedOperationException();
            }
        }
        if (first != -1 && first == second) {
            throw new UnsupportedOperationException();
        }
        if (funs.size() == 3) {
            throw new IllegalStateException();
        }
        funs.add(new Fun(result, first == -1 ? new int[0] : second == -1 ? new int[] {first} : new int[] {first, second}));
        return funs.size() - 1;
    }

    int setBody(int function, int statement) {
        if (function < 0 || function >= funs.size() || statement < 0 || statement >= stats.size()) {
            throw new IndexOutOfBoundsException();
        }
        if (takenStats.contains(statement)) {
            throw new UnsupportedOperationException();
        }
        Stat earlier = bodies.put(function, stats.get(statement));
        if (earlier != null) {
            takenStats.remove(earlier.id);
        }
        takenStats.add(statement);
        return bodies.size();
    }

    private void needNode(int... indexes) {
        for (int index : indexes) {
            if (index < 0 || index >= nodes.size()) {
                throw new IndexOutOfBoundsException();
            }
        }
    }

    private int make(String op, int type, BigInteger value, int var, int fun, int... parts) {
        Set<Integer> unlike = new HashSet<>();
        List<Tree> trees = new ArrayList<>();
        boolean wrong = type < 0;
        for (int part : parts) {
            wrong |= !unlike.add(part) || takenNodes.contains(part);
            trees.add(nodes.get(part));
        }
        Tree tree = new Tree(op, type, value, var, fun, nodes.size(), trees);
        if (wrong || tree.deep() > 12) {
            throw new UnsupportedOperationException();
        }
        if (nodes.size() == 100) {
            throw new IllegalStateException();
        }
        nodes.add(tree);
        takenNodes.addAll(unlike);
        return tree.id;
    }

    int number(int value, int type) {
        if (!num(type) || !fits(BigInteger.valueOf(value), type)) {
            throw new IllegalArgumentException();
        }
        return make("num", type, BigInteger.valueOf(value), -1, -1);
    }

    int name(int variable) {
        if (variable < 0 || variable >= vars.size()) {
            throw new IndexOutOfBoundsException();
        }
        Var var = vars.get(variable);
        return make("name", var.length > 0 ? var.type + 10 : var.type, null, variable, -1);
    }

    private boolean place(Tree tree) {
        return tree.op.equals("u*") || tree.op.equals("name") && vars.get(tree.var).length == 0;
    }

    int unary(char kind, int part) {
        if ("-~!*&idID".indexOf(kind) < 0) {
            throw new IllegalArgumentException();
        }
        needNode(part);
        Tree tree = nodes.get(part);
        int type = -1;
        if (kind == '!') {
            type = 2;
        } else if (kind == '-' || kind == '~') {
            type = num(tree.type) ? prom(tree.type) : -1;
        } else if (kind == '*') {
            type = num(tree.type) ? -1 : tree.type - 10;
        } else if (place(tree)) {
            type = kind != '&' ? tree.type : num(tree.type) ? tree.type + 10 : -1;
        }
        return make("u" + kind, type, null, -1, -1, part);
    }

    int cast(int type, int part) {
        if (!num(type)) {
            throw new IllegalArgumentException();
        }
        needNode(part);
        return make("cast", num(nodes.get(part).type) ? type : -1, null, -1, -1, part);
    }

    int binary(char kind, int first, int second) {
        if ("+-*/%&|^lr<=ao,".indexOf(kind) < 0) {
            throw new IllegalArgumentException();
        }
        needNode(first, second);
        int a = nodes.get(first).type;
        int b = nodes.get(second).type;
        int type = -1;
        if (kind == 'a' || kind == 'o') {
            type = 2;
        } else if (kind == ',') {
            type = b;
        } else if (num(a) && num(b)) {
            type = kind == '<' || kind == '=' ? 2 : kind == 'l' || kind == 'r' ? prom(a) : one(a, b);
        } else if (!num(a) && num(b) && (kind == '+' || kind == '-')) {
            type = a;
        } else if (a == b && (kind == '<' || kind == '=')) {
            type = 2;
        }
        return make("b" + kind, type, null, -1, -1, first, second);
    }

    int choose(int condition, int first, int second) {
        needNode(condition, first, second);
        int a = nodes.get(first).type;
        int b = nodes.get(second).type;
        return make("choose", num(a) && num(b) ? one(a, b) : a == b ? a : -1, null, -1, -1, condition, first, second);
    }

    int assign(char kind, int place, int part) {
        if (kind != 's' && kind != 'p') {
            throw new IllegalArgumentException();
        }
        needNode(place, part);
        Tree target = nodes.get(place);
        int given = nodes.get(part).type;
        boolean fine = num(given) ? num(target.type) || kind == 'p' : kind == 's' && given == target.type;
        return make("a" + kind, fine && place(target) ? target.type : -1, null, -1, -1, place, part);
    }

    int call(int function, int first, int second) {
        if (function < 0 || function >= funs.size()) {
            throw new IndexOutOfBoundsException();
        }
        for (int part : new int[] {first, second}) {
            if (part != -1) {
                needNode(part);
            }
        }
        Fun fun = funs.get(function);
        int[] parts = first == -1 ? new int[0] : second == -1 ? new int[] {first} : new int[] {first, second};
        if (parts.length != fun.params.length || first == -1 && second != -1) {
            throw new UnsupportedOperationException();
        }
        int type = fun.result;
        for (int k = 0; k < parts.length; k++) {
            int due = vars.get(fun.params[k]).type;
            int got = nodes.get(parts[k]).type;
            if (num(due) ? !num(got) : due != got) {
                type = -1;
            }
        }
        return make("call", type, null, -1, function, parts);
    }

    int typeOf(int node) {
        needNode(node);
        return nodes.get(node).type;
    }

    private int state(char kind, int node, int var, int... parts) {
        Set<Integer> unlike = new HashSet<>();
        List<Stat> inner = new ArrayList<>();
        boolean wrong = node != -1 && takenNodes.contains(node);
        for (int part : parts) {
            wrong |= !unlike.add(part) || takenStats.contains(part);
            inner.add(stats.get(part));
        }
        Stat stat = new Stat(kind, node == -1 ? null : nodes.get(node), var, inner, stats.size());
        if (wrong || stat.deep() > 12) {
            throw new UnsupportedOperationException();
        }
        if (stats.size() == 60) {
            throw new IllegalStateException();
        }
        stats.add(stat);
        takenStats.addAll(unlike);
        if (node != -1) {
            takenNodes.add(node);
        }
        return stat.id;
    }

    private void needStat(int... indexes) {
        for (int index : indexes) {
            if (index < 0 || index >= stats.size()) {
                throw new IndexOutOfBoundsException();
            }
        }
    }

    int simple(char kind, int part) {
        if (kind != 'e' && kind != 'p' && kind != 'r') {
            throw new IllegalArgumentException();
        }
        needNode(part);
        if (kind != 'e' && !num(nodes.get(part).type)) {
            throw new UnsupportedOperationException();
        }
        return state(kind, part, -1);
    }

    int declare(int variable) {
        if (variable < 0 || variable >= vars.size()) {
            throw new IndexOutOfBoundsException();
        }
        if (vars.get(variable).global) {
            throw new UnsupportedOperationException();
        }
        return state('d', -1, variable);
    }

    int branch(int condition, int first, int second) {
        needNode(condition);
        needStat(first);
        if (second == -1) {
            return state('i', condition, -1, first);
        }
        needStat(second);
        return state('i', condition, -1, first, second);
    }

    int repeat(int condition, int body) {
        needNode(condition);
        needStat(body);
        return state('w', condition, -1, body);
    }

    int then(int first, int second) {
        needStat(first, second);
        return state('s', -1, -1, first, second);
    }

    int block(int body) {
        needStat(body);
        return state('b', -1, -1, body);
    }

    // Runs

    private void needStart() {
        if (!bodies.containsKey(0) || funs.get(0).params.length > 0) {
            throw new IllegalStateException();
        }
    }

    char run(int order) {
        needStart();
        if (order < 0) {
            throw new IllegalArgumentException();
        }
        last = new Run(bodies, order);
        allSteps += last.steps;
        return last.end;
    }

    char runOptimised(int order) {
        needStart();
        if (order < 0) {
            throw new IllegalArgumentException();
        }
        last = new Run(new Folder().bodies(), order);
        allSteps += last.steps;
        return last.end;
    }

    char kindOf() {
        if (last == null || last.end != 'x') {
            throw new NoSuchElementException();
        }
        return last.kind;
    }

    int placeOf() {
        if (last == null || last.end != 'x') {
            throw new NoSuchElementException();
        }
        return last.node;
    }

    int steps() {
        return last == null ? 0 : last.steps;
    }

    int choices() {
        return last == null ? 0 : last.choices;
    }

    int printed() {
        return last == null ? 0 : last.shown().length();
    }

    char printedAt(int index) {
        if (index < 0 || index >= printed()) {
            throw new IndexOutOfBoundsException();
        }
        return last.shown().charAt(index);
    }

    private List<Behaviour> all(Map<Integer, Stat> of) {
        List<Behaviour> list = new ArrayList<>();
        for (int order = 0; order < 16; order++) {
            Run run = new Run(of, order);
            list.add(new Behaviour(run.end, run.kind, run.shown()));
        }
        return list;
    }

    int behaviours() {
        needStart();
        return new HashSet<>(all(bodies)).size();
    }

    int undefinedOrders() {
        needStart();
        int count = 0;
        for (Behaviour behaviour : all(bodies)) {
            count += behaviour.end == 'x' ? 1 : 0;
        }
        return count;
    }

    int optimised() {
        needStart();
        Folder folder = new Folder();
        folder.bodies();
        return folder.steps;
    }

    int optimisedSize() {
        needStart();
        int size = 0;
        for (Stat body : new Folder().bodies().values()) {
            size += body == null ? 0 : body.count();
        }
        return size;
    }

    boolean isAsIf() {
        return undefinedOrders() > 0 || new HashSet<>(all(bodies)).containsAll(all(new Folder().bodies()));
    }

    float definedShare() {
        return (16 - undefinedOrders()) / 16f;
    }

    long allSteps() {
        return allSteps;
    }

    /** The kind of what has no meaning, or null; the result is in the array then. */
    private static Character reckon(String op, int type, int firstType, BigInteger x, BigInteger y, BigInteger[] into) {
        boolean mayLeave = false;
        switch (op) {
            case "u-": into[0] = x.negate(); break;
            case "u~": into[0] = x.not(); mayLeave = true; break;
            case "u!": into[0] = x.signum() == 0 ? BigInteger.ONE : BigInteger.ZERO; break;
            case "cast": into[0] = x; mayLeave = true; break;
            case "b+": into[0] = x.add(y); break;
            case "b-": into[0] = x.subtract(y); break;
            case "b*": into[0] = x.multiply(y); break;
            case "b/":
            case "b%":
                if (y.signum() == 0) {
                    return 'z';
                }
                into[0] = op.equals("b/") ? x.divide(y) : x.remainder(y);
                break;
            case "b&": into[0] = x.and(y); break;
            case "b|": into[0] = x.or(y); break;
            case "b^": into[0] = x.xor(y); break;
            case "b<": into[0] = x.compareTo(y) < 0 ? BigInteger.ONE : BigInteger.ZERO; break;
            case "b=": into[0] = x.equals(y) ? BigInteger.ONE : BigInteger.ZERO; break;
            case "bl":
            case "br":
                if (y.signum() < 0 || y.compareTo(BigInteger.valueOf(width(type))) >= 0) {
                    return 's';
                }
                if (op.equals("br")) {
                    into[0] = x.shiftRight(y.intValue());
                    break;
                }
                into[0] = x.shiftLeft(y.intValue());
                if (signed(type) && (x.signum() < 0 || !fits(into[0], type))) {
                    return 's';
                }
                break;
            default: throw new AssertionError(op);
        }
        if (!mayLeave && signed(type) && !fits(into[0], type)) {
            return 'o';
        }
        into[0] = conv(into[0], type);
        return null;
    }

    /** Both operands as they are when the reckoning begins. */
    private static Character reckonTree(Tree tree, BigInteger x, BigInteger y, BigInteger[] into) {
        int a = tree.parts.get(0).type;
        if (tree.parts.size() == 2 && !tree.op.equals("bl") && !tree.op.equals("br")) {
            int type = one(a, tree.parts.get(1).type);
            return reckon(tree.op, tree.op.equals("b<") || tree.op.equals("b=") ? 2 : type, a, conv(x, type), conv(y, type), into);
        }
        return reckon(tree.op, tree.type, a, x, y, into);
    }

    private final class Run {
        final Map<Integer, Stat> of;
        final int order;
        int steps;
        int choices;
        char end = 'n';
        char kind = ' ';
        int node = -1;
        final StringBuilder text = new StringBuilder();
        final List<Object[]> lives = new ArrayList<>();
        final Set<Integer> ended = new HashSet<>();
        final Map<Integer, Integer> globals = new HashMap<>();
        Map<Integer, Integer> locals = new HashMap<>();
        List<Integer> born = new ArrayList<>();
        int deep = 1;
        BigInteger returned;

        Run(Map<Integer, Stat> of, int order) {
            this.of = of;
            this.order = order;
            for (int k = 0; k < vars.size(); k++) {
                if (vars.get(k).global) {
                    globals.put(k, live(k));
                }
            }
            try {
                perform(of.get(0));
            } catch (Stop stop) {
                end = stop.end;
                kind = stop.kind;
                node = stop.node;
            }
        }

        String shown() {
            return text.length() > 80 ? text.substring(0, 80) : text.toString();
        }

        int live(int var) {
            lives.add(new Object[Math.max(1, vars.get(var).length)]);
            return lives.size() - 1;
        }

        void step() {
            if (steps == 300) {
                throw new Stop('l', ' ', -1);
            }
            steps++;
        }

        void bring(int var) {
            Integer earlier = locals.get(var);
            if (earlier != null) {
                ended.add(earlier);
            }
            int life = live(var);
            locals.put(var, life);
            born.add(life);
        }

        /** Whether the call returned. */
        boolean perform(Stat stat) {
            if (stat == null) {
                return false;
            }
            step();
            switch (stat.kind) {
                case 'e':
                    full(stat.node);
                    return false;
                case 'p':
                    text.append(full(stat.node)).append(' ');
                    return false;
                case 'r':
                    returned = (BigInteger) full(stat.node);
                    return true;
                case 'd':
                    bring(stat.var);
                    return false;
                case 'i':
                    if (holds(full(stat.node))) {
                        return perform(stat.parts.get(0));
                    }
                    return stat.parts.size() > 1 && perform(stat.parts.get(1));
                case 'w':
                    while (holds(full(stat.node))) {
                        if (perform(stat.parts.get(0))) {
                            return true;
                        }
                    }
                    return false;
                case 's':
                    return perform(stat.parts.get(0)) || perform(stat.parts.get(1));
                default:
                    List<Integer> outer = born;
                    born = new ArrayList<>();
                    boolean back = perform(stat.parts.get(0));
                    ended.addAll(born);
                    born = outer;
                    return back;
            }
        }

        boolean holds(Object value) {
            return value instanceof BigInteger ? ((BigInteger) value).signum() != 0 : value != null;
        }

        Object full(Tree tree) {
            return value(tree, new HashSet<>(), new HashSet<>());
        }

        Stop none(char what, Tree tree) {
            return new Stop('x', what, tree.id);
        }

        Object value(Tree tree, Set<Pointer> reads, Set<Pointer> writes) {
            step();
            switch (tree.op) {
                case "num": return tree.value;
                case "name": return named(tree, reads);
                case "u*": return get(tree, (Pointer) value(tree.parts.get(0), reads, writes), reads);
                case "u&": return address(tree, reads, writes);
                case "ui":
                case "ud":
                case "uI":
                case "uD": return bump(tree, reads, writes);
                case "ba":
                    boolean both = holds(value(tree.parts.get(0), reads, writes))
                            && holds(value(tree.parts.get(1), reads, writes));
                    return both ? BigInteger.ONE : BigInteger.ZERO;
                case "bo":
                    boolean any = holds(value(tree.parts.get(0), reads, writes))
                            || holds(value(tree.parts.get(1), reads, writes));
                    return any ? BigInteger.ONE : BigInteger.ZERO;
                case "b,":
                    value(tree.parts.get(0), reads, writes);
                    return value(tree.parts.get(1), reads, writes);
                case "choose":
                    boolean holds = holds(value(tree.parts.get(0), reads, writes));
                    Object taken = value(tree.parts.get(holds ? 1 : 2), reads, writes);
                    return num(tree.type) ? conv((BigInteger) taken, tree.type) : taken;
                case "u-":
                case "u~":
                case "cast":
                    return reckoned(tree, value(tree.parts.get(0), reads, writes), null);
                case "u!":
                    return holds(value(tree.parts.get(0), reads, writes)) ? BigInteger.ZERO : BigInteger.ONE;
                case "as":
                case "ap": return assigned(tree, reads, writes);
                case "call":
                    Object[] given = pair(tree, tree.parts, reads, writes);
                    return called(tree, given);
                default:
                    Object[] two = pair(tree, tree.parts, reads, writes);
                    return num(tree.parts.get(0).type) ? reckoned(tree, two[0], two[1]) : pointed(tree, two[0], two[1]);
            }
        }

        Object reckoned(Tree tree, Object x, Object y) {
            BigInteger[] into = new BigInteger[1];
            Character wrong = reckonTree(tree, (BigInteger) x, (BigInteger) y, into);
            if (wrong != null) {
                throw none(wrong, tree);
            }
            return into[0];
        }

        Object pointed(Tree tree, Object x, Object y) {
            if (tree.op.equals("b=")) {
                return x.equals(y) ? BigInteger.ONE : BigInteger.ZERO;
            }
            if (tree.op.equals("b<")) {
                if (((Pointer) x).life != ((Pointer) y).life) {
                    throw none('p', tree);
                }
                return ((Pointer) x).part < ((Pointer) y).part ? BigInteger.ONE : BigInteger.ZERO;
            }
            BigInteger by = (BigInteger) y;
            return moved(tree, (Pointer) x, tree.op.equals("b-") ? by.negate() : by);
        }

        Pointer moved(Tree tree, Pointer from, BigInteger by) {
            if (ended.contains(from.life)) {
                throw none('d', tree);
            }
            BigInteger to = by.add(BigInteger.valueOf(from.part));
            if (to.signum() < 0 || to.compareTo(BigInteger.valueOf(lives.get(from.life).length)) > 0) {
                throw none('b', tree);
            }
            return new Pointer(from.life, to.intValue());
        }

        /** Values of parts in a chosen or the usual order; a place gives a pointer to it, null if it does not live. */
        Object[] pair(Tree tree, List<Tree> parts, Set<Pointer> reads, Set<Pointer> writes) {
            Object[] values = new Object[parts.size()];
            List<Set<Pointer>> read = new ArrayList<>();
            List<Set<Pointer>> written = new ArrayList<>();
            for (int k = 0; k < parts.size(); k++) {
                read.add(new HashSet<>());
                written.add(new HashSet<>());
            }
            boolean turned = false;
            if (parts.size() == 2 && parts.get(0).calls() && parts.get(1).calls()) {
                turned = order / (1 << choices % 30) % 2 == 1;
                choices++;
            }
            for (int k = 0; k < parts.size(); k++) {
                int which = turned ? 1 - k : k;
                boolean isPlace = which == 0 && tree.op.startsWith("a");
                values[which] = isPlace ? placed(parts.get(0), read.get(0), written.get(0))
                        : value(parts.get(which), read.get(which), written.get(which));
            }
            if (parts.size() == 2) {
                for (int k = 0; k < 2; k++) {
                    for (Pointer cell : written.get(k)) {
                        if (read.get(1 - k).contains(cell) || written.get(1 - k).contains(cell)) {
                            throw none('u', tree);
                        }
                    }
                }
            }
            for (int k = 0; k < parts.size(); k++) {
                reads.addAll(read.get(k));
                writes.addAll(written.get(k));
            }
            return values;
        }

        Pointer placed(Tree place, Set<Pointer> reads, Set<Pointer> writes) {
            if (place.op.equals("u*")) {
                return (Pointer) value(place.parts.get(0), reads, writes);
            }
            Integer life = vars.get(place.var).global ? globals.get(place.var) : locals.get(place.var);
            return life == null ? null : new Pointer(life, 0);
        }

        Object named(Tree tree, Set<Pointer> reads) {
            Pointer at = placed(tree, null, null);
            if (vars.get(tree.var).length == 0) {
                return get(tree, at, reads);
            }
            if (at == null || ended.contains(at.life)) {
                throw none('d', tree);
            }
            return at;
        }

        void check(Tree tree, Pointer at) {
            if (at == null || ended.contains(at.life)) {
                throw none('d', tree);
            }
            if (at.part == lives.get(at.life).length) {
                throw none('b', tree);
            }
        }

        Object get(Tree tree, Pointer at, Set<Pointer> reads) {
            check(tree, at);
            Object value = lives.get(at.life)[at.part];
            if (value == null) {
                throw none('i', tree);
            }
            reads.add(at);
            return value;
        }

        Object put(Tree tree, Pointer at, Object value, Set<Pointer> writes) {
            check(tree, at);
            lives.get(at.life)[at.part] = value;
            writes.add(at);
            return value;
        }

        Object address(Tree tree, Set<Pointer> reads, Set<Pointer> writes) {
            Tree place = tree.parts.get(0);
            Pointer at = placed(place, reads, writes);
            if (place.op.equals("name") && (at == null || ended.contains(at.life))) {
                throw none('d', tree);
            }
            return at;
        }

        Object sum(Tree tree, String op, Object before, BigInteger by, int byType) {
            if (before instanceof Pointer) {
                return moved(tree, (Pointer) before, op.equals("b-") ? by.negate() : by);
            }
            int type = one(tree.type, byType);
            BigInteger[] into = new BigInteger[1];
            Character wrong = reckon(op, type, type, conv((BigInteger) before, type), conv(by, type), into);
            if (wrong != null) {
                throw none(wrong, tree);
            }
            return conv(into[0], tree.type);
        }

        Object bump(Tree tree, Set<Pointer> reads, Set<Pointer> writes) {
            Set<Pointer> read = new HashSet<>();
            Set<Pointer> written = new HashSet<>();
            Pointer at = placed(tree.parts.get(0), read, written);
            if (written.contains(at)) {
                throw none('u', tree);
            }
            Object before = get(tree, at, read);
            String op = tree.op.equalsIgnoreCase("ui") ? "b+" : "b-";
            Object after = put(tree, at, sum(tree, op, before, BigInteger.ONE, 2), written);
            reads.addAll(read);
            writes.addAll(written);
            return Character.isUpperCase(tree.op.charAt(1)) ? before : after;
        }

        Object assigned(Tree tree, Set<Pointer> reads, Set<Pointer> writes) {
            Set<Pointer> read = new HashSet<>();
            Set<Pointer> written = new HashSet<>();
            Object[] two = pair(tree, tree.parts, read, written);
            Pointer at = (Pointer) two[0];
            if (written.contains(at)) {
                throw none('u', tree);
            }
            Object value = two[1];
            if (tree.op.equals("ap")) {
                value = sum(tree, "b+", get(tree, at, read), (BigInteger) value, tree.parts.get(1).type);
            } else if (num(tree.type)) {
                value = conv((BigInteger) value, tree.type);
            }
            put(tree, at, value, written);
            reads.addAll(read);
            writes.addAll(written);
            return value;
        }

        Object called(Tree tree, Object[] given) {
            if (deep == 8) {
                throw new Stop('l', ' ', -1);
            }
            Fun fun = funs.get(tree.fun);
            Map<Integer, Integer> outer = locals;
            List<Integer> outerBorn = born;
            locals = new HashMap<>();
            born = new ArrayList<>();
            deep++;
            for (int k = 0; k < given.length; k++) {
                Var var = vars.get(fun.params[k]);
                bring(fun.params[k]);
                lives.get(locals.get(fun.params[k]))[0] = num(var.type) ? conv((BigInteger) given[k], var.type) : given[k];
            }
            int from = lives.size() - given.length;
            boolean back = perform(of.get(tree.fun));
            for (int life = from; life < lives.size(); life++) {
                ended.add(life);
            }
            locals = outer;
            born = outerBorn;
            deep--;
            if (!back) {
                throw none('i', tree);
            }
            return conv(returned, fun.result);
        }
    }

    /** The optimiser, from the leaves up. */
    private final class Folder {
        int steps;

        Map<Integer, Stat> bodies() {
            Map<Integer, Stat> made = new HashMap<>();
            for (Map.Entry<Integer, Stat> body : bodies.entrySet()) {
                made.put(body.getKey(), stat(body.getValue()));
            }
            return made;
        }

        Tree told(Tree tree, BigInteger value) {
            steps++;
            return new Tree("num", tree.type, value, -1, -1, tree.id, List.of());
        }

        boolean isNum(Tree tree) {
            return tree.op.equals("num");
        }

        Tree tree(Tree old) {
            List<Tree> parts = new ArrayList<>();
            boolean allTold = !old.parts.isEmpty();
            for (Tree part : old.parts) {
                parts.add(tree(part));
                allTold &= isNum(parts.get(parts.size() - 1));
            }
            Tree tree = old.with(parts);
            boolean first = !parts.isEmpty() && isNum(parts.get(0));
            boolean holds = first && parts.get(0).value.signum() != 0;
            if (tree.op.equals("ba") || tree.op.equals("bo")) {
                boolean decides = first && holds == tree.op.equals("bo");
                return decides ? told(tree, holds ? BigInteger.ONE : BigInteger.ZERO) : tree;
            }
            if (tree.op.equals("b,")) {
                steps += first ? 1 : 0;
                return first ? parts.get(1) : tree;
            }
            if (tree.op.equals("choose")) {
                return first ? taken(tree, parts.get(holds ? 1 : 2)) : tree;
            }
            boolean foldable = tree.op.equals("cast") || tree.op.matches("u[-~!]") || tree.op.startsWith("b");
            if (foldable && allTold) {
                BigInteger[] into = new BigInteger[1];
                BigInteger y = parts.size() > 1 ? parts.get(1).value : null;
                return reckonTree(tree, parts.get(0).value, y, into) == null ? told(tree, into[0]) : tree;
            }
            return tree;
        }

        Tree taken(Tree tree, Tree part) {
            steps++;
            if (!num(tree.type)) {
                return part;
            }
            Tree cast = new Tree("cast", tree.type, null, -1, -1, tree.id, List.of(part));
            return isNum(part) ? told(cast, conv(part.value, tree.type)) : cast;
        }

        Stat stat(Stat old) {
            Tree node = old.node == null ? null : tree(old.node);
            List<Stat> parts = new ArrayList<>();
            for (Stat part : old.parts) {
                parts.add(stat(part));
            }
            boolean told = node != null && isNum(node);
            boolean holds = told && node.value.signum() != 0;
            Stat made = new Stat(old.kind, node, old.var, parts, old.id);
            Stat becomes = made;
            if (old.kind == 'e' && told || old.kind == 'w' && told && !holds) {
                becomes = null;
            } else if (old.kind == 'i' && told) {
                becomes = holds ? parts.get(0) : parts.size() > 1 ? parts.get(1) : null;
            } else if (old.kind == 's' && (parts.get(0) == null || parts.get(1) == null)) {
                becomes = parts.get(0) == null ? parts.get(1) : parts.get(0);
            } else if (old.kind == 'b' && parts.get(0) == null) {
                becomes = null;
            }
            steps += becomes != made ? 1 : 0;
            return becomes;
        }
    }
}
