import java.util.ArrayList;
import java.util.List;
import java.util.Random;
import java.util.function.LongSupplier;

/** Random runs of calls, the same ones each time, whose answers must be those of Model. */
public final class RandomRunsTest {
    private static final int RUNS = 6000;
    private static final int[] TYPES = {0, 1, 2, 3, 4, 5};

    private final Random random;
    private final int seed;
    private final Sequencepoint point = new Sequencepoint();
    private final Model model = new Model();
    private final StringBuilder told = new StringBuilder();
    private final List<int[]> variables = new ArrayList<>();
    private final List<int[]> functions = new ArrayList<>();
    private int calls;
    private int current;
    private boolean isCalm;
    private boolean isWrong;

    private RandomRunsTest(int seed) {
        this.seed = seed;
        random = new Random(seed);
    }

    public static void main(String[] args) {
        int runs = args.length > 0 ? Integer.parseInt(args[0]) : RUNS;
        int from = args.length > 1 ? Integer.parseInt(args[1]) : 0;
        int wrong = 0;
        int[] ends = new int[128];
        int[] kinds = new int[128];
        int[] others = new int[4];
        for (int seed = from; seed < from + runs; seed++) {
            RandomRunsTest run = new RandomRunsTest(seed);
            run.play();
            if (run.isWrong && wrong++ < 5) {
                System.out.println("seed " + seed + ": " + run.told);
            }
            run.count(ends, kinds, others);
        }
        System.out.println("random runs: " + runs + ", ended with n " + ends['n'] + ", l " + ends['l'] + ", x "
                + ends['x'] + "; u " + kinds['u'] + ", i " + kinds['i'] + ", o " + kinds['o'] + ", z " + kinds['z']
                + ", s " + kinds['s'] + ", d " + kinds['d'] + ", b " + kinds['b'] + ", p " + kinds['p']
                + "; several behaviours " + others[0] + ", not as if " + others[1] + ", with choices " + others[2]);
        System.out.println("RandomRunsTest: " + (runs - wrong) + " passed, " + wrong + " failed");
        if (wrong > 0) {
            System.exit(1);
        }
    }

    private void count(int[] ends, int[] kinds, int[] others) {
        try {
            char end = model.run(1);
            ends[end]++;
            others[2] += model.choices() > 0 ? 1 : 0;
            others[0] += model.behaviours() > 1 ? 1 : 0;
            others[1] += model.isAsIf() ? 0 : 1;
            if (end == 'x') {
                kinds[model.kindOf()]++;
            }
        } catch (IllegalStateException e) {
            return;
        }
    }

    /** The answer of both, or -1 for an exception of both. */
    private int both(String call, LongSupplier one, LongSupplier two) {
        calls++;
        String first = answer(one);
        String second = answer(two);
        if (!first.equals(second) && !isWrong) {
            isWrong = true;
            told.append(call).append(" answered ").append(first).append(", due is ").append(second);
        } else if (!isWrong) {
            told.append(call).append(" = ").append(first).append("; ");
        }
        return Character.isDigit(second.charAt(0)) ? (int) Long.parseLong(second) : -1;
    }

    private static String answer(LongSupplier call) {
        try {
            return Long.toString(call.getAsLong());
        } catch (RuntimeException e) {
            return "throws " + e.getClass().getName();
        }
    }

    private int below(int bound) {
        return random.nextInt(bound);
    }

    private boolean chance(int percent) {
        return below(100) < percent;
    }

    private int type() {
        return chance(50) ? 2 + below(4) : TYPES[below(TYPES.length)];
    }

    private void play() {
        if (seed % 5 == 0) {
            playReckoning();
            return;
        }
        isCalm = chance(75);
        for (int k = 2 + below(isCalm ? 4 : 7); k > 0; k--) {
            variable();
        }
        int count = isCalm ? 2 + below(2) : 1 + below(3);
        for (int k = 0; k < count; k++) {
            function(k > 0);
        }
        boolean isWild = chance(25);
        for (int round = 0; round < 4 && calls < 380; round++) {
            for (int k = 0; k < functions.size(); k++) {
                if (round == 0 || chance(40)) {
                    int function = k;
                    int body = body(k);
                    both("setBody(" + k + ", " + body + ")",
                            () -> point.setBody(function, body), () -> model.setBody(function, body));
                }
            }
            ask();
            for (int times = isWild ? 15 : 2; times > 0; times--) {
                wild();
            }
        }
        ask();
    }

    private void variable() {
        boolean isPointer = !(isCalm && variables.isEmpty()) && chance(30);
        int seen = isCalm && isPointer ? variables.get(below(variables.size()))[0] % 10 : chance(60) ? 2 : below(6);
        int type = isPointer ? 10 + seen : chance(40) ? 2 : type();
        int length = !isPointer && chance(35) ? 1 + below(isCalm ? 3 : 8) : 0;
        boolean isGlobal = chance(45);
        int made = both("addVariable(" + type + ", " + length + ", " + isGlobal + ")",
                () -> point.addVariable(type, length, isGlobal), () -> model.addVariable(type, length, isGlobal));
        if (made >= 0) {
            variables.add(new int[] {type, length, isGlobal ? 1 : 0});
        }
    }

    private void function(boolean hasParameters) {
        int result = type();
        List<Integer> fit = new ArrayList<>();
        for (int k = 0; k < variables.size(); k++) {
            if (variables.get(k)[1] == 0 && variables.get(k)[2] == 0) {
                fit.add(k);
            }
        }
        int first = hasParameters && !fit.isEmpty() && chance(75) ? fit.get(below(fit.size())) : -1;
        int second = first >= 0 && chance(40) ? fit.get(below(fit.size())) : -1;
        int last = second == first ? -1 : second;
        int made = both("addFunction(" + result + ", " + first + ", " + last + ")",
                () -> point.addFunction(result, first, last), () -> model.addFunction(result, first, last));
        if (made >= 0) {
            functions.add(new int[] {result, first, last});
        }
    }

    // Nodes by the type that is due: 0 to 5 for any number, a pointer type for this one.

    private static final int[] EDGES = {127, 128, 255, 32767, 32768, 65535, 2147483647, -1, -2, -128, -32768, -2147483648};

    private int edge() {
        int type = type();
        int value = chance(50) ? EDGES[below(EDGES.length)] : below(35) - 2;
        return both("number(" + value + ", " + type + ")", () -> point.number(value, type), () -> model.number(value, type));
    }

    /** Programs of numbers alone: what they give, and how they are folded. */
    private void playReckoning() {
        function(false);
        for (int turn = 0; turn < 7; turn++) {
            int whole = edge();
            for (int k = below(4); k >= 0; k--) {
                int part = whole;
                int other = edge();
                int type = type();
                int which = below(8);
                int next = which == 0 ? unary("-~!".charAt(below(3)), part)
                        : which == 1 ? both("cast(" + type + ", " + part + ")", () -> point.cast(type, part), () -> model.cast(type, part))
                        : which == 2 ? choose(other, part, edge())
                        : binary("+-*/%&|^lr<=ao,".charAt(below(15)), chance(50) ? part : other, chance(50) ? other : part);
                whole = next < 0 ? whole : next;
            }
            int printed = simple('p', whole);
            if (printed >= 0) {
                both("setBody(0, " + printed + ")", () -> point.setBody(0, printed), () -> model.setBody(0, printed));
                ask();
            }
        }
    }

    private int number() {
        int type = isCalm && chance(80) ? 2 : type();
        int value = isCalm && chance(85) ? 1 + below(6) : chance(60) ? below(5) : chance(50) ? below(40) - 10 : random.nextInt() >> below(32);
        int made = both("number(" + value + ", " + type + ")", () -> point.number(value, type), () -> model.number(value, type));
        if (made < 0) {
            int one = below(3);
            return both("number(" + one + ", 2)", () -> point.number(one, 2), () -> model.number(one, 2));
        }
        return made;
    }

    private int name(int variable) {
        return both("name(" + variable + ")", () -> point.name(variable), () -> model.name(variable));
    }

    private int unary(char kind, int part) {
        return both("unary(" + kind + ", " + part + ")", () -> point.unary(kind, part), () -> model.unary(kind, part));
    }

    private int binary(char kind, int first, int second) {
        return both("binary(" + kind + ", " + first + ", " + second + ")",
                () -> point.binary(kind, first, second), () -> model.binary(kind, first, second));
    }

    private int assign(char kind, int first, int second) {
        return both("assign(" + kind + ", " + first + ", " + second + ")",
                () -> point.assign(kind, first, second), () -> model.assign(kind, first, second));
    }

    private int choose(int condition, int first, int second) {
        return both("choose(" + condition + ", " + first + ", " + second + ")",
                () -> point.choose(condition, first, second), () -> model.choose(condition, first, second));
    }

    private int single(boolean isPointer, int type) {
        List<Integer> fit = new ArrayList<>();
        for (int k = 0; k < variables.size(); k++) {
            int[] variable = variables.get(k);
            if (variable[1] == 0 && (isPointer ? variable[0] == type : variable[0] < 10)) {
                fit.add(k);
            }
        }
        return fit.isEmpty() ? -1 : fit.get(below(fit.size()));
    }

    private int place(int depth, int type) {
        boolean isPointer = type >= 10;
        int variable = single(isPointer, type);
        if (isPointer || depth < 1 || chance(60)) {
            return variable < 0 ? -1 : name(variable);
        }
        int pointer = pointer(depth - 1, anyPointerType());
        return pointer < 0 ? -1 : unary('*', pointer);
    }

    private int anyPointerType() {
        for (int tries = 0; tries < 4; tries++) {
            int[] variable = variables.get(below(variables.size()));
            if (variable[0] >= 10) {
                return variable[0];
            }
            if (variable[1] > 0 || chance(30)) {
                return variable[0] + 10;
            }
        }
        return 12;
    }

    private int pointer(int depth, int type) {
        int which = below(10);
        if (which < 4 || depth < 1) {
            List<Integer> fit = new ArrayList<>();
            for (int k = 0; k < variables.size(); k++) {
                int[] variable = variables.get(k);
                if (variable[0] == type || variable[1] > 0 && variable[0] + 10 == type) {
                    fit.add(k);
                }
            }
            if (!fit.isEmpty()) {
                return name(fit.get(below(fit.size())));
            }
        }
        if (which < 6) {
            int variable = -1;
            for (int k = 0; k < variables.size(); k++) {
                if (variables.get(k)[1] == 0 && variables.get(k)[0] + 10 == type && (variable < 0 || chance(50))) {
                    variable = k;
                }
            }
            return variable < 0 ? -1 : unary('&', name(variable));
        }
        if (which < 8) {
            int from = pointer(depth - 1, type);
            int by = number(depth - 2);
            return from < 0 || by < 0 ? -1 : binary(chance(70) ? '+' : '-', from, by);
        }
        if (which == 8) {
            int variable = single(true, type);
            if (variable < 0) {
                return -1;
            }
            if (chance(50)) {
                return unary("idID".charAt(below(4)), name(variable));
            }
            int given = chance(70) ? pointer(depth - 1, type) : number();
            return given < 0 ? -1 : assign(chance(70) ? 's' : 'p', name(variable), given);
        }
        int first = any(depth - 2);
        int second = pointer(depth - 1, type);
        if (first < 0 || second < 0) {
            return -1;
        }
        if (chance(50)) {
            return binary(',', first, second);
        }
        int third = pointer(depth - 1, type);
        return third < 0 ? -1 : choose(first, second, third);
    }

    private int any(int depth) {
        return chance(80) ? number(depth) : pointer(depth, anyPointerType());
    }

    private int number(int depth) {
        if (depth < 1) {
            return chance(60) || variables.isEmpty() ? number() : Math.max(-1, place(0, 2));
        }
        int which = below(20);
        if (which < 2) {
            return number();
        }
        if (which < 4) {
            return place(depth, 2);
        }
        if (which < 6) {
            int place = place(depth - 1, 2);
            return place < 0 ? -1 : unary("idID".charAt(below(4)), place);
        }
        if (which < 8) {
            int place = place(depth - 1, 2);
            int given = place < 0 ? -1 : number(depth - 1);
            return given < 0 ? -1 : assign(chance(60) ? 's' : 'p', place, given);
        }
        if (which < 11 && functions.size() > 0) {
            return call(depth, anyFunction());
        }
        if (which == 15 && functions.size() > 1) {
            int one = call(depth - 1, anyFunction());
            int two = call(depth - 1, anyFunction());
            return one < 0 || two < 0 ? -1 : binary("+-*&^|<=".charAt(below(8)), one, two);
        }
        if (which == 11) {
            int part = number(depth - 1);
            int type = type();
            return part < 0 ? -1 : both("cast(" + type + ", " + part + ")", () -> point.cast(type, part), () -> model.cast(type, part));
        }
        if (which == 12) {
            int part = number(depth - 1);
            return part < 0 ? -1 : unary("-~!".charAt(below(3)), part);
        }
        if (which == 13) {
            int type = anyPointerType();
            int first = pointer(depth - 1, type);
            int second = pointer(depth - 1, type);
            return first < 0 || second < 0 ? -1 : binary(chance(50) ? '<' : '=', first, second);
        }
        int first = which == 14 ? any(depth - 1) : number(depth - 1);
        int second = number(depth - 1);
        if (first < 0 || second < 0) {
            return -1;
        }
        if (which == 14) {
            char kind = "ao,?".charAt(below(4));
            if (kind != '?') {
                return binary(kind, first, second);
            }
            int third = number(depth - 1);
            return third < 0 ? -1 : choose(first, second, third);
        }
        return binary(chance(50) ? "+-<".charAt(below(3)) : "+-*/%&|^lr<=".charAt(below(12)), first, second);
    }

    private int anyFunction() {
        boolean isDeeper = isCalm && chance(97) && current + 1 < functions.size();
        return isDeeper ? current + 1 + below(functions.size() - current - 1) : below(functions.size());
    }

    private int call(int depth, int called) {
        int[] function = functions.get(called);
        int[] parts = {-1, -1};
        for (int k = 0; k < 2; k++) {
            if (function[k + 1] >= 0) {
                int type = variables.get(function[k + 1])[0];
                parts[k] = type < 10 ? number(depth - 1) : pointer(depth - 1, type);
                if (parts[k] < 0) {
                    return -1;
                }
            }
        }
        return both("call(" + called + ", " + parts[0] + ", " + parts[1] + ")",
                () -> point.call(called, parts[0], parts[1]), () -> model.call(called, parts[0], parts[1]));
    }

    // Statements

    private int simple(char kind, int part) {
        return part < 0 ? -1 : both("simple(" + kind + ", " + part + ")", () -> point.simple(kind, part), () -> model.simple(kind, part));
    }

    private int then(int first, int second) {
        if (first < 0 || second < 0) {
            return Math.max(first, second);
        }
        return both("then(" + first + ", " + second + ")", () -> point.then(first, second), () -> model.then(first, second));
    }

    private int declare(int variable) {
        return both("declare(" + variable + ")", () -> point.declare(variable), () -> model.declare(variable));
    }

    private int body(int function) {
        current = function;
        int all = -1;
        for (int k = 0; k < variables.size(); k++) {
            int[] variable = variables.get(k);
            boolean isParameter = functions.get(function)[1] == k || functions.get(function)[2] == k;
            if (variable[2] == 0 && !isParameter && chance(isCalm ? 97 : 70)) {
                all = then(all, declare(k));
            }
            if (!isParameter && chance(isCalm ? 97 : 65) && (variable[2] == 0 || function == 0)) {
                all = then(all, start(k));
            }
        }
        for (int k = 1 + below(function > 0 ? 2 : 4); k > 0; k--) {
            all = then(all, statement(2));
        }
        if (function > 0 || chance(20)) {
            int result = simple('r', number(1 + below(2)));
            all = then(all, result < 0 ? simple('r', number()) : result);
        }
        return all;
    }

    private int start(int k) {
        int[] variable = variables.get(k);
        if (variable[1] > 0) {
            int all = simple('e', assign('s', unary('*', name(k)), number()));
            for (int part = 1; part < variable[1] && chance(isCalm ? 95 : 50); part++) {
                int by = part;
                int number = both("number(" + by + ", 2)", () -> point.number(by, 2), () -> model.number(by, 2));
                int place = unary('*', binary('+', name(k), number));
                all = then(all, simple('e', assign('s', place, number())));
            }
            return all;
        }
        int given = variable[0] < 10 ? number() : isCalm ? -1 : pointer(1, variable[0]);
        for (int other = 0; other < variables.size() && given < 0; other++) {
            boolean isSeen = other != k && variables.get(other)[0] + 10 == variable[0];
            given = !isSeen ? -1 : variables.get(other)[1] > 0 ? name(other) : unary('&', name(other));
        }
        return given < 0 ? -1 : simple('e', assign('s', name(k), given));
    }

    private int statement(int depth) {
        int which = below(12);
        if (depth < 1 || which < 6) {
            return which < 5 ? simple('p', number(1 + below(5))) : simple('e', any(1 + below(4)));
        }
        if (which == 6) {
            for (int k = 0; k < variables.size(); k++) {
                if (variables.get(k)[2] == 0 && chance(50)) {
                    return declare(k);
                }
            }
            return -1;
        }
        if (which == 7) {
            int inner = statement(depth - 1);
            return inner < 0 ? -1 : both("block(" + inner + ")", () -> point.block(inner), () -> model.block(inner));
        }
        if (which == 8) {
            return then(statement(depth - 1), statement(depth - 1));
        }
        int condition = any(below(3));
        int first = statement(depth - 1);
        if (condition < 0 || first < 0) {
            return first;
        }
        if (which == 9) {
            return both("repeat(" + condition + ", " + first + ")", () -> point.repeat(condition, first), () -> model.repeat(condition, first));
        }
        int second = chance(60) ? statement(depth - 1) : -1;
        return both("branch(" + condition + ", " + first + ", " + second + ")",
                () -> point.branch(condition, first, second), () -> model.branch(condition, first, second));
    }

    // Questions

    private void ask() {
        both("behaviours()", point::behaviours, model::behaviours);
        both("undefinedOrders()", point::undefinedOrders, model::undefinedOrders);
        both("definedShare()", () -> Float.floatToIntBits(point.definedShare()), () -> Float.floatToIntBits(model.definedShare()));
        both("optimised()", point::optimised, model::optimised);
        both("optimisedSize()", point::optimisedSize, model::optimisedSize);
        both("isAsIf()", () -> point.isAsIf() ? 1 : 0, () -> model.isAsIf() ? 1 : 0);
        look();
        for (int k = 0; k < 3; k++) {
            int order = chance(70) ? below(16) : random.nextInt() >>> below(32);
            both("run(" + order + ")", () -> point.run(order), () -> model.run(order));
            look();
            both("runOptimised(" + order + ")", () -> point.runOptimised(order), () -> model.runOptimised(order));
            look();
        }
    }

    private void look() {
        both("kindOf()", point::kindOf, model::kindOf);
        both("placeOf()", point::placeOf, model::placeOf);
        both("steps()", point::steps, model::steps);
        both("choices()", point::choices, model::choices);
        both("allSteps()", point::allSteps, model::allSteps);
        int printed = both("printed()", point::printed, model::printed);
        int last = below(printed + 2) - 1;
        both("printedAt(" + last + ")", () -> point.printedAt(last), () -> model.printedAt(last));
        // Not counted as calls, so that a run stays a run of at most 512.
        for (int k = 0; k < printed; k++) {
            if (point.printedAt(k) != model.printedAt(k) && !isWrong) {
                isWrong = true;
                told.append("printedAt(").append(k).append(") differs");
            }
        }
    }

    private int wildIndex() {
        return chance(10) ? random.nextInt() : below(14) - 2 + (chance(30) ? below(100) : 0);
    }

    private char wildChar(String likely) {
        return chance(90) ? likely.charAt(below(likely.length())) : (char) below(65536);
    }

    /** Calls whose parts are likely to be wrong. */
    private void wild() {
        int a = wildIndex();
        int b = wildIndex();
        int c = wildIndex();
        boolean is = chance(50);
        switch (below(20)) {
            case 0: variableWild(a, chance(50) ? 0 : b, is); break;
            case 1:
                int made = both("addFunction(" + a + ", " + b + ", " + c + ")", () -> point.addFunction(a, b, c), () -> model.addFunction(a, b, c));
                if (made >= 0) {
                    functions.add(new int[] {a, b, c});
                }
                break;
            case 2: both("setBody(" + a + ", " + b + ")", () -> point.setBody(a, b), () -> model.setBody(a, b)); break;
            case 3: both("number(" + a + ", " + b + ")", () -> point.number(a, b), () -> model.number(a, b)); break;
            case 4: name(a); break;
            case 5: unary(wildChar("-~!*&idID"), a); break;
            case 6: both("cast(" + a + ", " + b + ")", () -> point.cast(a, b), () -> model.cast(a, b)); break;
            case 7:
            case 8: binary(wildChar("+-*/%&|^lr<=ao,"), a, b); break;
            case 9: choose(a, b, c); break;
            case 10: assign(wildChar("sp"), a, b); break;
            case 11: both("call(" + a + ", " + b + ", " + c + ")", () -> point.call(a, b, c), () -> model.call(a, b, c)); break;
            case 12: both("typeOf(" + a + ")", () -> point.typeOf(a), () -> model.typeOf(a)); break;
            case 13:
                char kind = wildChar("epr");
                both("simple(" + kind + ", " + a + ")", () -> point.simple(kind, a), () -> model.simple(kind, a));
                break;
            case 14: declare(a); break;
            case 15: both("branch(" + a + ", " + b + ", " + c + ")", () -> point.branch(a, b, c), () -> model.branch(a, b, c)); break;
            case 16: both("repeat(" + a + ", " + b + ")", () -> point.repeat(a, b), () -> model.repeat(a, b)); break;
            case 17: both("then(" + a + ", " + b + ")", () -> point.then(a, b), () -> model.then(a, b)); break;
            case 18: both("block(" + a + ")", () -> point.block(a), () -> model.block(a)); break;
            default:
                both("run(" + a + ")", () -> point.run(a), () -> model.run(a));
                both("runOptimised(" + b + ")", () -> point.runOptimised(b), () -> model.runOptimised(b));
                both("printedAt(" + c + ")", () -> point.printedAt(c), () -> model.printedAt(c));
        }
    }

    private void variableWild(int type, int length, boolean isGlobal) {
        int made = both("addVariable(" + type + ", " + length + ", " + isGlobal + ")",
                () -> point.addVariable(type, length, isGlobal), () -> model.addVariable(type, length, isGlobal));
        if (made >= 0) {
            variables.add(new int[] {type, length, isGlobal ? 1 : 0});
        }
    }
}
