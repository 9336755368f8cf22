import java.util.ArrayList;
import java.util.List;

/** Each sentence of the document that bounds what is built or refuses a call, with every method that it holds for. */
public final class BuildingBoundsTest extends Checks {
    private static final String UNARY = "-~!*&idID";
    private static final String BINARY = "+-*/%&|^lr<=ao,";

    // The variables of bench().
    private static final int SINGLE = 0;
    private static final int ARRAY = 1;
    private static final int FIRST = 2;
    private static final int SECOND = 3;

    private interface Making {
        int make(Sequencepoint j, int... parts);
    }

    /**
     * A way to make a node or a statement. Its roles tell its parts: 'n' is a number, 'a' a pointer, 'q' a place,
     * 's' a statement, and a capital letter one that may be -1.
     */
    private record Whole(String name, String roles, boolean isStatement, Making making) {
        char role(int k) {
            return Character.toLowerCase(roles.charAt(k));
        }

        boolean isOptional(int k) {
            return Character.isUpperCase(roles.charAt(k));
        }

        int make(Sequencepoint j, int... parts) {
            return making.make(j, parts);
        }
    }

    private static List<Whole> nodes() {
        List<Whole> all = new ArrayList<>();
        for (char kind : UNARY.toCharArray()) {
            String roles = kind == '*' ? "a" : "&idID".indexOf(kind) >= 0 ? "q" : "n";
            all.add(new Whole("unary " + kind, roles, false, (j, p) -> j.unary(kind, p[0])));
        }
        all.add(new Whole("cast", "n", false, (j, p) -> j.cast(3, p[0])));
        for (char kind : BINARY.toCharArray()) {
            all.add(new Whole("binary " + kind, "nn", false, (j, p) -> j.binary(kind, p[0], p[1])));
        }
        for (char kind : "+-".toCharArray()) {
            all.add(new Whole("pointer " + kind, "an", false, (j, p) -> j.binary(kind, p[0], p[1])));
        }
        for (char kind : "<=".toCharArray()) {
            all.add(new Whole("pointers " + kind, "aa", false, (j, p) -> j.binary(kind, p[0], p[1])));
        }
        all.add(new Whole("choose", "nnn", false, (j, p) -> j.choose(p[0], p[1], p[2])));
        all.add(new Whole("choose pointers", "aaa", false, (j, p) -> j.choose(p[0], p[1], p[2])));
        for (char kind : "sp".toCharArray()) {
            all.add(new Whole("assign " + kind, "qn", false, (j, p) -> j.assign(kind, p[0], p[1])));
        }
        all.add(new Whole("call of one part", "N", false, (j, p) -> j.call(1, p[0], -1)));
        all.add(new Whole("call of two parts", "NN", false, (j, p) -> j.call(2, p[0], p[1])));
        return all;
    }

    private static List<Whole> statements() {
        List<Whole> all = new ArrayList<>();
        for (char kind : "epr".toCharArray()) {
            all.add(new Whole("simple " + kind, "n", true, (j, p) -> j.simple(kind, p[0])));
        }
        all.add(new Whole("branch", "ns", true, (j, p) -> j.branch(p[0], p[1], -1)));
        all.add(new Whole("branch with a second one", "nsS", true, (j, p) -> j.branch(p[0], p[1], p[2])));
        all.add(new Whole("branch of a pointer", "as", true, (j, p) -> j.branch(p[0], p[1], -1)));
        all.add(new Whole("repeat", "ns", true, (j, p) -> j.repeat(p[0], p[1])));
        all.add(new Whole("then", "ss", true, (j, p) -> j.then(p[0], p[1])));
        all.add(new Whole("block", "s", true, (j, p) -> j.block(p[0])));
        return all;
    }

    private static List<Whole> wholes() {
        List<Whole> all = nodes();
        all.addAll(statements());
        return all;
    }

    /** Variables of the type 2: a global one, a global array, and two others, which functions 1 and 2 take. */
    private static Sequencepoint bench() {
        Sequencepoint j = new Sequencepoint();
        j.addVariable(2, 0, true);
        j.addVariable(2, 3, true);
        j.addVariable(2, 0, false);
        j.addVariable(2, 0, false);
        j.addFunction(2, -1, -1);
        j.addFunction(2, FIRST, -1);
        j.addFunction(2, FIRST, SECOND);
        return j;
    }

    private static int part(Sequencepoint j, char role, int depth) {
        if (role == 's') {
            return deepStatement(j, depth);
        }
        if (role == 'n') {
            return deepNode(j, depth);
        }
        if (role == 'q') {
            return depth == 1 ? j.name(SINGLE) : j.unary('*', part(j, 'a', depth - 1));
        }
        int pointer = j.name(ARRAY);
        for (int k = 1; k < depth; k++) {
            pointer = j.binary('+', pointer, num(j, 0));
        }
        return pointer;
    }

    private static int[] parts(Sequencepoint j, Whole whole) {
        int[] parts = new int[whole.roles().length()];
        for (int k = 0; k < parts.length; k++) {
            parts[k] = part(j, whole.role(k), 1);
        }
        return parts;
    }

    private static void isFree(String what, Sequencepoint j, Whole whole, int[] parts) {
        for (int k = 0; k < parts.length; k++) {
            int part = parts[k];
            boolean isStatement = whole.role(k) == 's';
            Call use = isStatement ? () -> j.setBody(0, part) : () -> j.simple('e', part);
            refuses(what + ": part " + k + " is free still, and", null, use);
        }
    }

    private static void fillNodesTo(Sequencepoint j, int count) {
        int made;
        do {
            made = j.number(0, 0);
        } while (made < count - 1);
        is("nodes", made, count - 1);
    }

    private static void fillStatementsTo(Sequencepoint j, int count) {
        int made;
        do {
            made = j.declare(FIRST);
        } while (made < count - 1);
        is("statements", made, count - 1);
    }

    // Sentences that hold for all nodes and statements

    private static void noneDeeper() {
        for (Whole whole : wholes()) {
            for (int k = 0; k < whole.roles().length(); k++) {
                Sequencepoint j = bench();
                int[] parts = parts(j, whole);
                parts[k] = part(j, whole.role(k), 11);
                refuses(whole.name() + " of a part " + k + " that is 11 deep", null, () -> whole.make(j, parts));
                Sequencepoint m = bench();
                int[] deeper = parts(m, whole);
                deeper[k] = part(m, whole.role(k), 12);
                // A statement may have nodes of any depth: only statements make it deeper.
                boolean isFine = whole.isStatement() && whole.role(k) != 's';
                refuses(whole.name() + " of a part " + k + " that is 12 deep", isFine ? null : UNSUPPORTED,
                        () -> whole.make(m, deeper));
                if (!isFine) {
                    isFree(whole.name(), m, whole, deeper);
                }
            }
        }
    }

    /** The deepest part counts, and none else. */
    private static void oneMoreThanTheDeepest() {
        for (Whole whole : wholes()) {
            boolean isNode = !whole.isStatement();
            boolean hasStatement = whole.roles().toLowerCase().indexOf('s') >= 0;
            if (!isNode && !hasStatement) {
                continue;
            }
            Sequencepoint j = bench();
            int[] parts = parts(j, whole);
            int last = parts.length - 1;
            parts[last] = part(j, whole.role(last), 4);
            int made = whole.make(j, parts);
            if (isNode) {
                for (int depth = 5; depth < 11; depth++) {
                    made = j.unary('!', made);
                }
                int twelve = j.unary('!', made);
                refuses(whole.name() + " and 8 around it", UNSUPPORTED, () -> j.unary('!', twelve));
            } else {
                for (int depth = 5; depth < 11; depth++) {
                    made = j.block(made);
                }
                int twelve = j.block(made);
                refuses(whole.name() + " and 8 around it", UNSUPPORTED, () -> j.block(twelve));
            }
        }
    }

    private static void partOfOneAtMost() {
        for (Whole whole : wholes()) {
            Sequencepoint j = bench();
            int[] parts = parts(j, whole);
            whole.make(j, parts);
            refuses(whole.name() + " once more", UNSUPPORTED, () -> whole.make(j, parts));
            for (int k = 0; k < parts.length; k++) {
                int part = parts[k];
                if (whole.role(k) == 's') {
                    refuses(whole.name() + " has it", UNSUPPORTED, () -> j.block(part));
                    refuses(whole.name() + " has it", UNSUPPORTED, () -> j.setBody(0, part));
                } else {
                    refuses(whole.name() + " has it", UNSUPPORTED, () -> j.unary('!', part));
                    refuses(whole.name() + " has it", UNSUPPORTED, () -> j.simple('e', part));
                }
                takenPart(whole, k);
            }
        }
    }

    private static void takenPart(Whole whole, int k) {
        Sequencepoint j = bench();
        int[] parts = parts(j, whole);
        if (whole.role(k) == 's') {
            j.setBody(1, parts[k]);
        } else {
            j.unary('!', parts[k]);
        }
        refuses(whole.name() + " of a part " + k + " that is taken", UNSUPPORTED, () -> whole.make(j, parts));
        for (int other = 0; other < parts.length; other++) {
            int part = parts[other];
            if (other != k && whole.role(other) == 's') {
                refuses(whole.name() + ": the other one is free", null, () -> j.setBody(2, part));
            } else if (other != k) {
                refuses(whole.name() + ": the other one is free", null, () -> j.simple('e', part));
            }
        }
    }

    private static void twoTheSame() {
        for (Whole whole : wholes()) {
            for (int k = 0; k < whole.roles().length(); k++) {
                for (int m = k + 1; m < whole.roles().length(); m++) {
                    if ((whole.role(k) == 's') == (whole.role(m) == 's')) {
                        Sequencepoint j = bench();
                        int[] parts = parts(j, whole);
                        parts[m] = parts[k];
                        refuses(whole.name() + " with " + k + " and " + m + " the same", UNSUPPORTED,
                                () -> whole.make(j, parts));
                    }
                }
            }
        }
    }

    private static void noSuchPart() {
        for (Whole whole : wholes()) {
            for (int k = 0; k < whole.roles().length(); k++) {
                Sequencepoint j = bench();
                int[] parts = parts(j, whole);
                int right = parts[k];
                int count = whole.role(k) == 's' ? part(j, 's', 1) + 1 : part(j, 'n', 1) + 1;
                for (int wrong : new int[] {-1, -2, count, count + 1, Integer.MAX_VALUE, Integer.MIN_VALUE}) {
                    parts[k] = wrong;
                    if (wrong != -1 || !whole.isOptional(k)) {
                        refuses(whole.name() + " of " + wrong + " as part " + k, INDEX, () -> whole.make(j, parts));
                    }
                }
                parts[k] = right;
                isFree(whole.name(), j, whole, parts);
            }
        }
    }

    private static void hundredNodes() {
        for (Whole whole : nodes()) {
            Sequencepoint j = bench();
            int[] parts = parts(j, whole);
            int[] others = parts(j, whole);
            int taken = num(j, 1);
            j.unary('!', taken);
            fillNodesTo(j, 99);
            is(whole.name() + " as the hundredth", whole.make(j, parts), 99);
            refuses(whole.name() + " as the next", STATE, () -> whole.make(j, others));
            refuses("type of the next", INDEX, () -> j.typeOf(100));
            inOrderWhenFull(j, whole, others, taken);
            isFree(whole.name() + " when full", j, whole, others);
        }
        Sequencepoint j = bench();
        fillNodesTo(j, 99);
        is("name as the hundredth", j.name(SINGLE), 99);
        refuses("name as the next", STATE, () -> j.name(SINGLE));
        refuses("a wrong name ahead of it", INDEX, () -> j.name(4));
        refuses("number as the next", STATE, () -> j.number(0, 0));
        refuses("a wrong number ahead of it", ARGUMENT, () -> j.number(128, 0));
        Sequencepoint m = bench();
        fillNodesTo(m, 100);
        is("number as the hundredth", m.typeOf(99), 0);
    }

    private static void sixtyStatements() {
        for (Whole whole : statements()) {
            Sequencepoint j = bench();
            int[] parts = parts(j, whole);
            int[] others = parts(j, whole);
            int taken = whole.role(0) == 's' ? part(j, 's', 1) : num(j, 1);
            if (whole.role(0) == 's') {
                j.setBody(1, taken);
            } else {
                j.unary('!', taken);
            }
            fillStatementsTo(j, 59);
            is(whole.name() + " as the sixtieth", whole.make(j, parts), 59);
            refuses(whole.name() + " as the next", STATE, () -> whole.make(j, others));
            refuses("there is none", INDEX, () -> j.setBody(0, 60));
            inOrderWhenFull(j, whole, others, taken);
            for (int k = 0; k < others.length; k++) {
                int part = others[k];
                Call use = whole.role(k) == 's' ? () -> j.setBody(0, part) : () -> j.unary('!', part);
                refuses(whole.name() + " when full: part " + k + " is free still, and", null, use);
            }
        }
        Sequencepoint j = bench();
        fillStatementsTo(j, 60);
        refuses("declare as the next", STATE, () -> j.declare(FIRST));
        refuses("a global one ahead of it", UNSUPPORTED, () -> j.declare(SINGLE));
        refuses("no variable ahead of it", INDEX, () -> j.declare(4));
    }

    /** What is listed first is thrown: no such part, then one that is taken, then that there are as many as can be. */
    private static void inOrderWhenFull(Sequencepoint j, Whole whole, int[] parts, int taken) {
        int right = parts[0];
        parts[0] = taken;
        refuses(whole.name() + " of a taken part, when full", UNSUPPORTED, () -> whole.make(j, parts));
        if (parts.length > 1) {
            int last = parts[parts.length - 1];
            parts[parts.length - 1] = 1000;
            refuses(whole.name() + " of a taken part and of none", INDEX, () -> whole.make(j, parts));
            parts[parts.length - 1] = last;
        }
        parts[0] = -3;
        refuses(whole.name() + " of no part, when full", INDEX, () -> whole.make(j, parts));
        parts[0] = right;
    }

    private static void kinds() {
        Sequencepoint j = bench();
        Sequencepoint full = bench();
        for (Sequencepoint each : new Sequencepoint[] {j, full}) {
            num(each, 1);
            each.name(SINGLE);
        }
        fillNodesTo(full, 100);
        fillStatementsTo(full, 60);
        for (int k = 0; k < 65536; k++) {
            char kind = (char) k;
            boolean isBinary = BINARY.indexOf(kind) >= 0;
            boolean isAssign = kind == 's' || kind == 'p';
            boolean isSimple = kind == 'e' || kind == 'p' || kind == 'r';
            boolean isUnary = UNARY.indexOf(kind) >= 0;
            refuses("unary of none " + k, isUnary ? INDEX : ARGUMENT, () -> j.unary(kind, 99));
            refuses("binary of none " + k, isBinary ? INDEX : ARGUMENT, () -> j.binary(kind, 0, 99));
            refuses("assign of none " + k, isAssign ? INDEX : ARGUMENT, () -> j.assign(kind, 1, 99));
            refuses("simple of none " + k, isSimple ? INDEX : ARGUMENT, () -> j.simple(kind, 99));
            refuses("unary when full " + k, !isUnary ? ARGUMENT : kind == '*' ? UNSUPPORTED : STATE,
                    () -> full.unary(kind, 1));
            refuses("binary when full " + k, isBinary ? STATE : ARGUMENT, () -> full.binary(kind, 0, 1));
            refuses("assign when full " + k, isAssign ? STATE : ARGUMENT, () -> full.assign(kind, 1, 0));
            refuses("simple when full " + k, isSimple ? STATE : ARGUMENT, () -> full.simple(kind, 0));
        }
        is("nothing is made", num(j, 1), 2);
    }

    // Types

    /** For each type from 0 to 15 an array or, for pointers, what a pointer to one is: parts of all types. */
    private static Sequencepoint ofAllTypes() {
        Sequencepoint j = judge();
        for (int type = 0; type < 6; type++) {
            j.addVariable(type, 1, true);
        }
        return j;
    }

    private static boolean isNumber(int type) {
        return type >= 0 && type <= 5;
    }

    private static int bits(int type) {
        return type < 2 ? 8 : type < 4 ? 16 : 32;
    }

    private static int promoted(int type) {
        return type == 0 || type == 1 ? 2 : type;
    }

    /** The one type that two numbers get, told by bits and signs. */
    private static int one(int first, int second) {
        int a = promoted(first);
        int b = promoted(second);
        if (bits(a) != bits(b)) {
            return bits(a) > bits(b) ? a : b;
        }
        return a % 2 != 0 ? a : b;
    }

    private static int ofType(Sequencepoint j, int type) {
        return isNumber(type) ? j.number(1, type) : j.name(type - 10);
    }

    private static final int[] TYPES = {0, 1, 2, 3, 4, 5, 10, 11, 12, 13, 14, 15};

    private static void fits(String what, int due, Sequencepoint j, Making making, int... parts) {
        int[] made = {-1};
        refuses(what, due < 0 ? UNSUPPORTED : null, () -> made[0] = making.make(j, parts));
        if (due >= 0 && made[0] >= 0) {
            is(what + " has the type", j.typeOf(made[0]), due);
        }
    }

    private static void typesOfUnaryNodes() {
        for (int type : TYPES) {
            Sequencepoint j = ofAllTypes();
            int due = isNumber(type) ? promoted(type) : -1;
            fits("- of " + type, due, j, (k, p) -> k.unary('-', p[0]), ofType(j, type));
            fits("~ of " + type, due, j, (k, p) -> k.unary('~', p[0]), ofType(j, type));
            fits("! of " + type, 2, j, (k, p) -> k.unary('!', p[0]), ofType(j, type));
            fits("* of " + type, isNumber(type) ? -1 : type - 10, j, (k, p) -> k.unary('*', p[0]), ofType(j, type));
            for (char kind : "&idID".toCharArray()) {
                fits(kind + " of no place " + type, -1, j, (k, p) -> k.unary(kind, p[0]), ofType(j, type));
            }
            for (int to = 0; to < 6; to++) {
                int wanted = to;
                fits("cast of " + type, isNumber(type) ? to : -1, j, (k, p) -> k.cast(wanted, p[0]), ofType(j, type));
            }
            Sequencepoint m = judge();
            m.addVariable(type, 0, true);
            fits("& of a place " + type, isNumber(type) ? type + 10 : -1, m, (k, p) -> k.unary('&', p[0]), m.name(0));
            for (char kind : "idID".toCharArray()) {
                fits(kind + " of a place " + type, type, m, (k, p) -> k.unary(kind, p[0]), m.name(0));
            }
        }
    }

    private static int typeOfBinary(char kind, int first, int second) {
        boolean areNumbers = isNumber(first) && isNumber(second);
        if (kind == ',') {
            return second;
        }
        if (kind == 'a' || kind == 'o') {
            return 2;
        }
        if (kind == '<' || kind == '=') {
            return areNumbers || first == second ? 2 : -1;
        }
        if (areNumbers) {
            return kind == 'l' || kind == 'r' ? promoted(first) : one(first, second);
        }
        return (kind == '+' || kind == '-') && isNumber(second) ? first : -1;
    }

    private static void typesOfTwoParts() {
        for (int first : TYPES) {
            for (int second : TYPES) {
                Sequencepoint j = ofAllTypes();
                String both = " of " + first + " and " + second;
                for (char kind : BINARY.toCharArray()) {
                    fits(kind + both, typeOfBinary(kind, first, second), j, (k, p) -> k.binary(kind, p[0], p[1]),
                            ofType(j, first), ofType(j, second));
                }
                int due = isNumber(first) && isNumber(second) ? one(first, second) : first == second ? first : -1;
                fits("choice" + both, due, j, (k, p) -> k.choose(p[0], p[1], p[2]), num(j, 1), ofType(j, first),
                        ofType(j, second));
                fits("choice by a pointer" + both, due, j, (k, p) -> k.choose(p[0], p[1], p[2]), j.name(0),
                        ofType(j, first), ofType(j, second));
                typesOfPlaces(first, second);
            }
        }
    }

    /** What is put into a place, or given to a parameter, of the one type, and is of the other one. */
    private static void typesOfPlaces(int place, int given) {
        Sequencepoint j = ofAllTypes();
        int into = j.addVariable(place, 0, true);
        int parameter = j.addVariable(place, 0, false);
        j.addFunction(3, parameter, -1);
        String both = " to " + place + " of " + given;
        boolean isTaken = isNumber(place) ? isNumber(given) : place == given;
        fits("s" + both, isTaken ? place : -1, j, (k, p) -> k.assign('s', p[0], p[1]), j.name(into), ofType(j, given));
        fits("p" + both, isNumber(given) ? place : -1, j, (k, p) -> k.assign('p', p[0], p[1]), j.name(into),
                ofType(j, given));
        fits("call" + both, isTaken ? 3 : -1, j, (k, p) -> k.call(1, p[0], -1), ofType(j, given));
    }

    private static void places() {
        for (char kind : "&idIDsp".toCharArray()) {
            Making making = kind == 's' || kind == 'p' ? (j, p) -> j.assign(kind, p[0], num(j, 1))
                    : (j, p) -> j.unary(kind, p[0]);
            Sequencepoint j = bench();
            int due = kind == '&' ? 12 : 2;
            fits(kind + " of a name", due, j, making, j.name(SINGLE));
            fits(kind + " of a name that is not global", due, j, making, j.name(FIRST));
            fits(kind + " of what a pointer points to", due, j, making, j.unary('*', j.name(ARRAY)));
            fits(kind + " of an array", -1, j, making, j.name(ARRAY));
            fits(kind + " of a number", -1, j, making, num(j, 1));
            fits(kind + " of -", -1, j, making, j.unary('-', j.name(SINGLE)));
            fits(kind + " of i", -1, j, making, j.unary('i', j.name(SINGLE)));
            fits(kind + " of &", -1, j, making, j.unary('&', j.name(SINGLE)));
            fits(kind + " of a cast", -1, j, making, j.cast(2, j.name(SINGLE)));
            fits(kind + " of a sum", -1, j, making, j.binary('+', j.name(SINGLE), num(j, 1)));
            fits(kind + " of a product", -1, j, making, j.binary('*', j.name(SINGLE), num(j, 1)));
            fits(kind + " of ,", -1, j, making, j.binary(',', num(j, 1), j.name(SINGLE)));
            fits(kind + " of a choice", -1, j, making, j.choose(num(j, 1), j.name(SINGLE), j.name(SINGLE)));
            fits(kind + " of s", -1, j, making, j.assign('s', j.name(SINGLE), num(j, 1)));
            fits(kind + " of a call", -1, j, making, j.call(0, -1, -1));
        }
        Sequencepoint j = judge();
        j.addVariable(2, 1, true);
        fits("an array of one part is no place", -1, j, (k, p) -> k.unary('i', p[0]), j.name(0));
        is("but a pointer", j.typeOf(j.name(0)), 12);
    }

    // Variables, functions, numbers

    private static void variables() {
        for (int type = -3; type < 30; type++) {
            for (int length = -2; length < 12; length++) {
                int a = type;
                int b = length;
                boolean isPointer = type >= 10 && type <= 15;
                boolean isFine = isNumber(type) && length >= 0 && length <= 8 || isPointer && length == 0;
                Sequencepoint j = new Sequencepoint();
                refuses("type " + a + ", length " + b, isFine ? null : ARGUMENT, () -> j.addVariable(a, b, a % 2 == 0));
                is("the next variable", j.addVariable(0, 0, true), isFine ? 1 : 0);
            }
        }
        Sequencepoint j = new Sequencepoint();
        for (int k = 0; k < 10; k++) {
            is("variable", j.addVariable(k % 2 == 0 ? 15 : 5, 0, k % 3 == 0), k);
        }
        refuses("an eleventh one", STATE, () -> j.addVariable(0, 0, false));
        refuses("an eleventh one that is global", STATE, () -> j.addVariable(15, 0, true));
        refuses("no type ahead of it", ARGUMENT, () -> j.addVariable(6, 0, false));
        refuses("a length ahead of it", ARGUMENT, () -> j.addVariable(0, 9, false));
        refuses("pointers ahead of it", ARGUMENT, () -> j.addVariable(10, 1, false));
        refuses("there is no eleventh one", INDEX, () -> j.name(10));
        is("the tenth one", j.typeOf(j.name(9)), 5);
    }

    private static void functions() {
        for (int result = -3; result < 20; result++) {
            int type = result;
            Sequencepoint j = bench2();
            refuses("result " + result, isNumber(result) ? null : ARGUMENT, () -> j.addFunction(type, -1, -1));
            refuses("result " + result + " and no variable", isNumber(result) ? INDEX : ARGUMENT,
                    () -> j.addFunction(type, 9, -1));
            is("the next function", j.addFunction(0, -1, -1), isNumber(result) ? 1 : 0);
        }
        for (int first = -3; first < 7; first++) {
            for (int second = -3; second < 7; second++) {
                int a = first;
                int b = second;
                Sequencepoint j = bench2();
                Class<?> due = dueForParameters(first, second);
                refuses("parameters " + first + " and " + second, due, () -> j.addFunction(1, a, b));
                is("the next function", j.addFunction(0, -1, -1), due == null ? 1 : 0);
            }
        }
        Sequencepoint j = bench2();
        for (int k = 0; k < 3; k++) {
            is("function", j.addFunction(k, 2, 3), k);
        }
        refuses("a fourth one", STATE, () -> j.addFunction(0, -1, -1));
        refuses("a global one ahead of it", UNSUPPORTED, () -> j.addFunction(0, 0, -1));
        refuses("an array ahead of it", UNSUPPORTED, () -> j.addFunction(0, 2, 1));
        refuses("no variable ahead of it", INDEX, () -> j.addFunction(0, 2, 5));
        refuses("no variable ahead of a global one", INDEX, () -> j.addFunction(0, 0, 5));
        refuses("no type ahead of it", ARGUMENT, () -> j.addFunction(6, 2, 3));
        refuses("no first one ahead of it", ARGUMENT, () -> j.addFunction(0, -1, 2));
        refuses("there is no fourth one", INDEX, () -> j.call(3, -1, -1));
    }

    /** Five variables: a global one, an array, and three that can be parameters. */
    private static Sequencepoint bench2() {
        Sequencepoint j = new Sequencepoint();
        j.addVariable(2, 0, true);
        j.addVariable(2, 1, false);
        j.addVariable(2, 0, false);
        j.addVariable(13, 0, false);
        j.addVariable(5, 0, false);
        return j;
    }

    private static Class<?> dueForParameters(int first, int second) {
        if (first == -1 && second != -1) {
            return ARGUMENT;
        }
        if (first < -1 || first > 4 || second < -1 || second > 4) {
            return INDEX;
        }
        boolean isFine = (first == -1 || first > 1) && (second == -1 || second > 1) && (first != second || first == -1);
        return isFine ? null : UNSUPPORTED;
    }

    private static void numbers() {
        long[] lows = {-128, 0, -32768, 0, Integer.MIN_VALUE, 0};
        long[] highs = {127, 255, 32767, 65535, Integer.MAX_VALUE, 4294967295L};
        int[] values = {Integer.MIN_VALUE, Integer.MIN_VALUE + 1, -65536, -65535, -32769, -32768, -32767, -256, -255,
                -129,
            -128, -127, -1, 0, 1, 126, 127, 128, 254, 255, 256, 32766, 32767, 32768, 65534, 65535, 65536,
            Integer.MAX_VALUE - 1, Integer.MAX_VALUE};
        for (int type = -2; type < 18; type++) {
            for (int value : values) {
                int t = type;
                Sequencepoint j = judge();
                boolean isFine = isNumber(type) && value >= lows[type] && value <= highs[type];
                refuses(value + " of the type " + type, isFine ? null : ARGUMENT, () -> j.number(value, t));
                if (isFine) {
                    is("value of the type " + type, value(j, 0), "" + value);
                }
                is("the next node", num(j, 1), isFine ? 1 : 0);
            }
        }
    }

    private static void indices() {
        Sequencepoint j = bench();
        int[] wrongs = {-1, -2, 4, 5, 100, Integer.MAX_VALUE, Integer.MIN_VALUE};
        for (int wrong : wrongs) {
            refuses("name " + wrong, INDEX, () -> j.name(wrong));
            refuses("declare " + wrong, INDEX, () -> j.declare(wrong));
        }
        int statement = j.simple('e', num(j, 1));
        for (int wrong : new int[] {-1, -2, 1, 2, 60, Integer.MAX_VALUE, Integer.MIN_VALUE}) {
            refuses("typeOf " + wrong, INDEX, () -> j.typeOf(wrong));
            refuses("setBody of " + wrong, INDEX, () -> j.setBody(0, wrong));
        }
        for (int wrong : new int[] {-1, -2, 3, 4, Integer.MAX_VALUE, Integer.MIN_VALUE}) {
            refuses("setBody to " + wrong, INDEX, () -> j.setBody(wrong, statement));
            refuses("call of " + wrong, INDEX, () -> j.call(wrong, -1, -1));
        }
        j.setBody(2, statement);
        refuses("no function ahead of a part", INDEX, () -> j.setBody(3, statement));
        refuses("a part", UNSUPPORTED, () -> j.setBody(0, statement));
        is("lowest name", j.name(0), 1);
        is("highest name", j.name(3), 2);
        is("lowest declared", j.declare(FIRST), 1);
        is("highest declared", j.declare(SECOND), 2);
    }

    private static void partsOfCalls() {
        Sequencepoint j = bench();
        for (int function = 0; function < 3; function++) {
            for (int count = 0; count < 4; count++) {
                // 0 is no part, 1 a first one, 2 a second one alone, 3 both.
                int f = function;
                int first = count % 2 == 1 ? num(j, 1) : -1;
                int second = count > 1 ? num(j, 1) : -1;
                boolean isFine = function == 0 ? count == 0 : function == 1 ? count == 1 : count == 3;
                refuses("function " + f + " of " + first + " and " + second, isFine ? null : UNSUPPORTED,
                        () -> j.call(f, first, second));
            }
        }
        refuses("no function ahead of the parts", INDEX, () -> j.call(3, 0, 0));
        refuses("no node ahead of too many", INDEX, () -> j.call(0, 99, -1));
        refuses("no second node ahead of too many", INDEX, () -> j.call(0, -1, 99));
    }

    // Bodies

    private static void bodies() {
        Sequencepoint j = bench();
        int[] s = new int[6];
        for (int k = 0; k < s.length; k++) {
            s[k] = print(j, num(j, k));
        }
        is("one body", j.setBody(1, s[0]), 1);
        refuses("no body of the function 0", STATE, () -> j.run(0));
        is("still one", j.setBody(1, s[1]), 1);
        is("two", j.setBody(0, s[0]), 2);
        is("the earlier one is part of nothing then", again(j, 0), "n:0 ");
        is("three", j.setBody(2, s[2]), 3);
        is("still three", j.setBody(2, s[3]), 3);
        is("and free for another one", j.block(s[2]), 6);
        refuses("not a body that stays", UNSUPPORTED, () -> j.block(s[3]));
        refuses("nor as a second body", UNSUPPORTED, () -> j.setBody(1, s[3]));
        refuses("nor for its own function", UNSUPPORTED, () -> j.setBody(2, s[3]));
        refuses("a refused one leaves the earlier one a body", UNSUPPORTED, () -> j.then(s[3], s[4]));
        is("and the function with it", again(j, 0), "n:0 ");
    }

    private static void start() {
        Sequencepoint none = new Sequencepoint();
        Sequencepoint bare = judge();
        Sequencepoint taking = new Sequencepoint();
        taking.addVariable(2, 0, false);
        taking.addFunction(2, 0, -1);
        taking.addFunction(2, -1, -1);
        taking.setBody(0, print(taking, num(taking, 1)));
        taking.setBody(1, print(taking, num(taking, 1)));
        Sequencepoint other = judge();
        other.addFunction(2, -1, -1);
        other.setBody(1, print(other, num(other, 1)));
        for (Sequencepoint j : new Sequencepoint[] {none, bare, taking, other}) {
            refuses("run", STATE, () -> j.run(0));
            refuses("run of an order below 0", STATE, () -> j.run(-1));
            refuses("runOptimised", STATE, () -> j.runOptimised(0));
            refuses("runOptimised of an order below 0", STATE, () -> j.runOptimised(-1));
            refuses("behaviours", STATE, j::behaviours);
            refuses("undefinedOrders", STATE, j::undefinedOrders);
            refuses("optimised", STATE, j::optimised);
            refuses("optimisedSize", STATE, j::optimisedSize);
            refuses("isAsIf", STATE, j::isAsIf);
            refuses("definedShare", STATE, j::definedShare);
            is("nothing was run", j.steps() + j.allSteps(), 0);
        }
        other.setBody(0, print(other, num(other, 1)));
        for (int order : new int[] {-1, -2, Integer.MIN_VALUE}) {
            refuses("order " + order, ARGUMENT, () -> other.run(order));
            refuses("optimised order " + order, ARGUMENT, () -> other.runOptimised(order));
        }
        is("order 0", other.run(0), 'n');
        is("highest order", other.run(Integer.MAX_VALUE), 'n');
        is("optimised order 0", other.runOptimised(0), 'n');
        is("highest optimised order", other.runOptimised(Integer.MAX_VALUE), 'n');
    }

    private static void refusedCallsLeaveTheLastRun() {
        Sequencepoint j = bench();
        int wrong = j.binary('/', num(j, 1), num(j, 0));
        j.setBody(0, j.then(print(j, num(j, 7)), print(j, wrong)));
        is("run", j.run(0), 'x');
        refuses("order", ARGUMENT, () -> j.run(-1));
        refuses("optimised order", ARGUMENT, () -> j.runOptimised(-1));
        refuses("variable", ARGUMENT, () -> j.addVariable(7, 0, true));
        refuses("function", STATE, () -> j.addFunction(0, -1, -1));
        refuses("body", INDEX, () -> j.setBody(0, 99));
        refuses("character", INDEX, () -> j.printedAt(2));
        is("kind", j.kindOf(), 'z');
        is("place", j.placeOf(), wrong);
        is("steps", j.steps(), 1 + 2 + 1 + 3);
        is("all steps", j.allSteps(), 7);
        is("text", text(j), ":7 ");
    }

    private static void newObject() {
        Sequencepoint j = new Sequencepoint();
        refuses("kindOf", NONE, j::kindOf);
        refuses("placeOf", NONE, j::placeOf);
        is("steps", j.steps(), 0);
        is("choices", j.choices(), 0);
        is("printed", j.printed(), 0);
        is("allSteps", j.allSteps(), 0);
        for (int index : new int[] {-1, 0, 1, 79, 80, Integer.MAX_VALUE, Integer.MIN_VALUE}) {
            refuses("printedAt " + index, INDEX, () -> j.printedAt(index));
        }
        refuses("no variable", INDEX, () -> j.name(0));
        refuses("no variable to declare", INDEX, () -> j.declare(0));
        refuses("no variable as a parameter", INDEX, () -> j.addFunction(0, 0, -1));
        refuses("no function to call", INDEX, () -> j.call(0, -1, -1));
        refuses("no node", INDEX, () -> j.typeOf(0));
        refuses("no statement", INDEX, () -> j.block(0));
        refuses("no function for a body", INDEX, () -> j.setBody(0, 0));
        Sequencepoint full = bench();
        fillNodesTo(full, 100);
        fillStatementsTo(full, 60);
        is("another object has nodes of its own", j.number(0, 0), 0);
        is("and variables", j.addVariable(0, 0, false), 0);
        is("and functions", j.addFunction(0, -1, -1), 0);
        is("and statements", j.declare(0), 0);
    }

    public static void main(String[] args) {
        about("Creates a judge without variables, functions, nodes and statements.", BuildingBoundsTest::newObject);
        about("At most 10 variables are numbered from 0.", BuildingBoundsTest::variables);
        about("At most 3 functions are numbered from 0.", BuildingBoundsTest::functions);
        about("If there is no such type or it has not this value.", BuildingBoundsTest::numbers);
        about("If there is no such variable, function, node or statement.", BuildingBoundsTest::indices,
                BuildingBoundsTest::noSuchPart);
        about("If there are as many parts as parameters not.", BuildingBoundsTest::partsOfCalls);
        about("None is more than 12 deep.", BuildingBoundsTest::noneDeeper);
        about("1 more than its deepest part.", BuildingBoundsTest::oneMoreThanTheDeepest);
        about("Each is part of at most one other one.", BuildingBoundsTest::partOfOneAtMost);
        about("Or two are the same.", BuildingBoundsTest::twoTheSame);
        about("At most 100 nodes are numbered from 0.", BuildingBoundsTest::hundredNodes);
        about("At most 60 statements are numbered from 0.", BuildingBoundsTest::sixtyStatements);
        about("If there is no such kind.", BuildingBoundsTest::kinds);
        about("Or the types do not fit.", BuildingBoundsTest::typesOfUnaryNodes, BuildingBoundsTest::typesOfTwoParts);
        about("A place is a name of a variable that is no array, or what a pointer points to.",
                BuildingBoundsTest::places);
        about("In place of another one, which is part of nothing then.", BuildingBoundsTest::bodies);
        about("If the function 0 has no body, or parameters, or the order is less than 0.", BuildingBoundsTest::start);
        about("A method that throws an exception changes nothing.", BuildingBoundsTest::refusedCallsLeaveTheLastRun);
        finish("BuildingBoundsTest");
    }
}
