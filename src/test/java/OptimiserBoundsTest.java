/** Each sentence on optimising: what it changes, in how many steps, and what it leaves as it is. */
public final class OptimiserBoundsTest extends Checks {
    private static final String NUMBERED = "+-*/%&|^lr<=";

    // The variables of bench().
    private static final int X = 0;
    private static final int ARRAY = 1;
    private static final int OTHER = 2;
    private static final int LOCAL = 3;

    private static Sequencepoint bench() {
        Sequencepoint j = judge();
        j.addVariable(2, 0, true);
        j.addVariable(2, 2, true);
        j.addVariable(2, 2, true);
        j.addVariable(2, 0, false);
        return j;
    }

    private static int just(Sequencepoint j, int node) {
        return j.simple('e', node);
    }

    /** A statement as the body: the optimiser's steps, then the size that is left. */
    private static void folds(String what, Sequencepoint j, int statement, int steps, int size) {
        j.setBody(0, statement);
        is("steps of " + what, j.optimised(), steps);
        is("size of " + what, j.optimisedSize(), size);
        is("steps again of " + what, j.optimised(), steps);
    }

    /** A node that is printed. */
    private static void foldsNode(String what, Sequencepoint j, int node, int steps, int size) {
        folds(what, j, print(j, node), steps, size + 1);
    }

    private static String optimisedRun(Sequencepoint j, int order) {
        char end = j.runOptimised(order);
        return (end == 'x' ? "x" + j.kindOf() + j.placeOf() : "" + end) + text(j);
    }

    private static void numbersThatAreTold() {
        for (char kind : NUMBERED.toCharArray()) {
            Sequencepoint j = bench();
            foldsNode(kind + " of two", j, j.binary(kind, num(j, 3), num(j, 2)), 1, 1);
            foldsNode(kind + " of a first one", j, j.binary(kind, num(j, 3), j.name(X)), 0, 3);
            foldsNode(kind + " of a second one", j, j.binary(kind, j.name(X), num(j, 3)), 0, 3);
            foldsNode(kind + " of none", j, j.binary(kind, j.name(X), j.name(X)), 0, 3);
            foldsNode(kind + " of folded ones", j, j.binary(kind, j.unary('-', num(j, -3)), j.cast(4, num(j, 2))), 3,
                    1);
        }
        for (char kind : "-~!".toCharArray()) {
            Sequencepoint j = bench();
            foldsNode(kind + " of one", j, j.unary(kind, num(j, 3)), 1, 1);
            foldsNode(kind + " of none", j, j.unary(kind, j.name(X)), 0, 2);
        }
        for (int type = 0; type < 6; type++) {
            Sequencepoint j = bench();
            foldsNode("a cast of one", j, j.cast(type, num(j, 300)), 1, 1);
            foldsNode("a cast of none", j, j.cast(type, j.name(X)), 0, 2);
        }
        Sequencepoint j = bench();
        foldsNode("! of a pointer", j, j.unary('!', j.name(ARRAY)), 0, 2);
        foldsNode("pointers", j, j.binary('=', j.name(ARRAY), j.name(ARRAY)), 0, 3);
        folds("a pointer and a number", j, just(j, j.binary('+', j.name(ARRAY), num(j, 1))), 0, 4);
        for (char kind : "idID".toCharArray()) {
            folds(kind + " of a name", j, just(j, j.unary(kind, j.name(X))), 0, 3);
        }
        folds("s", j, just(j, j.assign('s', j.name(X), num(j, 1))), 0, 4);
        folds("p", j, just(j, j.assign('p', j.name(X), num(j, 1))), 0, 4);
        folds("a call", j, just(j, j.call(0, -1, -1)), 0, 2);
    }

    private static void whatHasNoMeaning() {
        int[][] cases = {{'+', 32767, 1, 'o'}, {'-', -32768, 1, 'o'}, {'*', 256, 128, 'o'}, {'/', -32768, -1, 'o'},
                {'/', 1, 0, 'z'},
            {'%', 1, 0, 'z'}, {'l', 1, 16, 's'}, {'l', 1, -1, 's'}, {'l', -1, 1, 's'}, {'l', 1, 15, 's'},
                    {'r', 1, 16, 's'}, {'r', 1, -1, 's'}};
        for (int[] one : cases) {
            Sequencepoint j = bench();
            int node = j.binary((char) one[0], num(j, one[1]), num(j, one[2]));
            foldsNode((char) one[0] + " of " + one[1] + " and " + one[2], j, node, 0, 3);
            is("it is found all the same", optimisedRun(j, 0), "x" + (char) one[3] + node);
            int around = j.binary('+', num(j, 1), j.binary((char) one[0], num(j, one[1]),
                    j.unary('-', num(j, -one[2]))));
            foldsNode("with parts that are folded", j, around, 1, 5);
        }
        Sequencepoint j = bench();
        int lowest = j.unary('-', num(j, -32768));
        foldsNode("- of the lowest", j, lowest, 0, 2);
        is("it is found all the same", optimisedRun(j, 0), "xo" + lowest);
        foldsNode("% of the lowest has one", j, j.binary('%', num(j, -32768), num(j, -1)), 1, 1);
        foldsNode("the lowest of 8 bits", j, j.unary('-', j.number(-128, 0)), 1, 1);
    }

    private static void typesOfWhatIsGiven() {
        // ~ shows the type: it gives the other bits of it.
        Sequencepoint j = bench();
        Object[][] cases = {{j.binary('+', j.number(1, 3), num(j, 1)), "65533"},
                {j.binary('<', j.number(1, 5), j.number(2, 5)), "-2"},
            {j.binary('=', j.number(1, 3), j.number(2, 3)), "-1"}, {j.unary('!', j.number(1, 5)), "-1"},
                    {j.cast(3, num(j, 7)), "65528"},
            {j.binary('l', j.number(1, 1), j.number(1, 5)), "-3"},
                    {j.binary('r', j.number(4, 3), j.number(1, 5)), "65533"},
            {j.binary('a', j.number(0, 5), j.name(X)), "-1"}, {j.binary('o', j.number(7, 5), j.name(X)), "-2"},
            {j.choose(num(j, 1), j.number(1, 2), j.number(1, 5)), "4294967294"}, {j.unary('-', j.number(1, 5)), "0"},
            {j.binary(',', num(j, 1), j.number(1, 3)), "65534"}};
        for (Object[] one : cases) {
            j.setBody(0, print(j, j.unary('~', (Integer) one[0])));
            is("the node " + one[0] + " as it is", again(j, 0), "n:" + one[1] + " ");
            is("the node " + one[0] + " optimised", optimisedRun(j, 0), "n:" + one[1] + " ");
            is("it is a number", j.optimisedSize(), 2);
        }
    }

    private static void decisions() {
        for (int first = -1; first < 3; first++) {
            Sequencepoint j = bench();
            boolean holds = first != 0;
            foldsNode(first + " a", j, j.binary('a', num(j, first), j.name(X)), holds ? 0 : 1, holds ? 3 : 1);
            is("its value", optimisedRun(j, 0).substring(0, 1), holds ? "x" : "n");
            foldsNode(first + " a a number", j, j.binary('a', num(j, first), num(j, 0)), holds ? 0 : 1, holds ? 3 : 1);
            is("its value", optimisedRun(j, 0), "n:0 ");
            foldsNode(first + " o", j, j.binary('o', num(j, first), j.name(X)), holds ? 1 : 0, holds ? 1 : 3);
            is("its value", optimisedRun(j, 0).substring(0, 1), holds ? "n" : "x");
            foldsNode(first + " o a number", j, j.binary('o', num(j, first), num(j, 7)), holds ? 1 : 0, holds ? 1 : 3);
            is("its value", optimisedRun(j, 0), "n:1 ");
            foldsNode(first + " ,", j, j.binary(',', num(j, first), j.name(X)), 1, 1);
            foldsNode(first + " , a number", j, j.binary(',', num(j, first), num(j, 5)), 1, 1);
            is("its value", optimisedRun(j, 0), "n:5 ");
            folds(first + " , a pointer", j, just(j, j.binary(',', num(j, first), j.name(ARRAY))), 1, 2);
            int one = j.name(X);
            foldsNode(first + " chooses", j, j.choose(num(j, first), holds ? one : num(j, 1),
                    holds ? num(j, 1) : one), 1, 2);
            is("the part", optimisedRun(j, 0), "xi" + one);
            foldsNode(first + " chooses a number", j, j.choose(num(j, first), num(j, 3), num(j, 4)), 2, 1);
            is("the number", optimisedRun(j, 0), holds ? "n:3 " : "n:4 ");
        }
        Sequencepoint j = bench();
        foldsNode("a of a second number", j, j.binary('a', j.name(X), num(j, 0)), 0, 3);
        foldsNode("o of a second number", j, j.binary('o', j.name(X), num(j, 1)), 0, 3);
        foldsNode("a of a pointer", j, j.binary('a', j.name(ARRAY), num(j, 1)), 0, 3);
        foldsNode(", of a second number", j, j.binary(',', j.name(X), num(j, 0)), 0, 3);
        foldsNode("a choice that is not told", j, j.choose(j.name(X), num(j, 1), num(j, 2)), 0, 4);
        foldsNode("a choice of like ones", j, j.choose(j.name(ARRAY), num(j, 1), num(j, 1)), 0, 4);
        foldsNode("folded parts first", j, j.binary('a', j.unary('!', num(j, 1)), j.unary('-', num(j, 1))), 3, 1);
        foldsNode(", in one another", j, j.binary(',', j.binary(',', num(j, 1), num(j, 2)),
                j.binary(',', num(j, 3), num(j, 4))), 3, 1);
        foldsNode("a choice in a choice", j, j.choose(j.choose(num(j, 0), num(j, 1), num(j, 0)), num(j, 5),
                j.choose(num(j, 1), j.name(X), num(j, 6))), 4, 3);
    }

    /** Of numbers with a cast to its type around it, of pointers itself. */
    private static void choicesTaken() {
        for (int which = 0; which < 2; which++) {
            Sequencepoint j = bench();
            int set = put(j, X, num(j, -1));
            int taken = j.name(X);
            int other = j.number(1, 5);
            int node = which == 0 ? j.choose(num(j, 0), other, taken) : j.choose(num(j, 9), taken, other);
            folds("a choice of a name", j, j.then(set, print(j, node)), 1, 1 + 4 + 3);
            is("converted by its cast", optimisedRun(j, 0), "n:4294967295 ");
            is("steps of the cast", j.steps(), 1 + 3 + 3);
            is("as it was", again(j, 0), "n:4294967295 ");
            is("steps", j.steps(), 1 + 3 + 1 + 3);
            is("as if", j.isAsIf() ? 1 : 0, 1);
        }
        Sequencepoint j = bench();
        int like = j.choose(num(j, 1), j.name(X), j.name(X));
        foldsNode("of one type there is a cast too", j, like, 1, 2);
        foldsNode("a told one converts", j, j.choose(num(j, 1), num(j, -1), j.number(1, 5)), 2, 1);
        is("value", optimisedRun(j, 0), "n:4294967295 ");
        foldsNode("and is folded further", j, j.unary('-', j.choose(num(j, 0), num(j, -1), j.number(1, 5))), 3, 1);
        is("value", optimisedRun(j, 0), "n:4294967295 ");
        int pointers = j.choose(num(j, 0), j.name(ARRAY), j.name(OTHER));
        folds("pointers", j, just(j, pointers), 1, 2);
    }

    private static void places() {
        Sequencepoint j = bench();
        int place = j.unary('*', j.choose(num(j, 0), j.name(ARRAY), j.name(OTHER)));
        int shown = j.unary('*', j.binary(',', num(j, 1), j.name(OTHER)));
        folds("a pointer to a place", j, j.then(just(j, j.assign('s', place, num(j, 6))), print(j, shown)), 2,
                1 + 5 + 3);
        is("the place", optimisedRun(j, 0), "n:6 ");
        is("as it was", again(j, 0), "n:6 ");
        int bump = j.unary('i', j.unary('*', j.binary('+', j.name(ARRAY), j.binary('-', num(j, 3), num(j, 2)))));
        folds("its parts", j, just(j, bump), 1, 1 + 5);
        is("the place", optimisedRun(j, 0), "xi" + bump);
        int of = j.unary('&', j.unary('*', j.binary(',', num(j, 1), j.name(ARRAY))));
        folds("& of what it points to", j, just(j, of), 1, 1 + 3);
        int read = j.unary('*', j.binary('+', j.name(ARRAY), j.unary('-', num(j, -2))));
        folds("a fault of a place", j, just(j, read), 1, 1 + 4);
        is("is found by it", optimisedRun(j, 0), "xb" + read);
    }

    private static void statementsThatBecomeNothing() {
        Sequencepoint j = bench();
        folds("e of a number", j, just(j, num(j, 1)), 1, 0);
        is("no steps", j.runOptimised(0) == 'n' ? j.steps() : -1, 0);
        folds("e of a folded one", j, just(j, j.binary('+', num(j, 1), num(j, 2))), 2, 0);
        folds("e of a name", j, just(j, j.name(X)), 0, 2);
        folds("e without a meaning", j, just(j, j.binary('/', num(j, 1), num(j, 0))), 0, 4);
        folds("p of a number", j, print(j, num(j, 1)), 0, 2);
        folds("r of a number", j, j.simple('r', num(j, 1)), 0, 2);
        folds("d", j, j.declare(LOCAL), 0, 1);
        for (int told = -1; told < 2; told++) {
            branchesAndLoops(bench(), told);
        }
    }

    private static void branchesAndLoops(Sequencepoint j, int told) {
        boolean holds = told != 0;
        folds("i with " + told, j, j.branch(num(j, told), print(j, j.name(X)), -1), 1, holds ? 2 : 0);
        folds("i with " + told + " and two", j, j.branch(num(j, told), print(j, j.name(X)),
                j.simple('r', j.unary('~', j.name(X)))), 1,
                holds ? 2 : 3);
        folds("i with " + told + " of nothing first", j, j.branch(num(j, told), just(j, num(j, 1)),
                print(j, num(j, 1))), 2, holds ? 0 : 2);
        folds("i with " + told + " of nothing second", j, j.branch(num(j, told), print(j, num(j, 1)),
                just(j, num(j, 1))), 2, holds ? 2 : 0);
        folds("w with " + told, j, j.repeat(num(j, told), print(j, num(j, 1))), holds ? 0 : 1, holds ? 4 : 0);
        folds("w with " + told + " of nothing", j, j.repeat(num(j, told), just(j, num(j, 1))), holds ? 1 : 2,
                holds ? 2 : 0);
    }

    private static void conditionsThatAreNotTold() {
        Sequencepoint j = bench();
        folds("i not told of nothing first", j, j.branch(j.name(X), just(j, num(j, 2)), print(j, num(j, 1))), 1, 4);
        folds("i not told of nothing second", j, j.branch(j.name(X), print(j, num(j, 1)), just(j, num(j, 2))), 1, 4);
        folds("i not told of nothing", j, j.branch(j.name(X), just(j, num(j, 2)), just(j, num(j, 2))), 2, 2);
        folds("i by a pointer", j, j.branch(j.name(ARRAY), print(j, num(j, 2)), -1), 0, 4);
        folds("w by a pointer", j, j.repeat(j.name(ARRAY), print(j, num(j, 2))), 0, 4);
        folds("i by what is folded", j, j.branch(j.binary('<', num(j, 2), num(j, 1)), print(j, num(j, 2)), -1), 2, 0);
        folds("w by what is folded", j, j.repeat(j.binary('<', num(j, 2), num(j, 1)), print(j, num(j, 2))), 2, 0);
    }

    private static void statementsOfNothing() {
        Sequencepoint j = bench();
        folds("s of nothing first", j, j.then(just(j, num(j, 1)), print(j, num(j, 1))), 2, 2);
        folds("s of nothing second", j, j.then(print(j, num(j, 1)), just(j, num(j, 1))), 2, 2);
        folds("s of nothing", j, j.then(just(j, num(j, 1)), just(j, num(j, 1))), 3, 0);
        folds("s of something", j, j.then(print(j, num(j, 1)), print(j, num(j, 1))), 0, 5);
        folds("b of nothing", j, j.block(just(j, num(j, 1))), 2, 0);
        folds("b of something", j, j.block(print(j, num(j, 1))), 0, 3);
        folds("b of b of nothing", j, j.block(j.block(just(j, num(j, 1)))), 3, 0);
        folds("all in one another", j, j.branch(num(j, 1), j.block(j.then(j.repeat(num(j, 0), j.declare(LOCAL)),
                just(j, num(j, 1)))), -1), 5, 0);
        folds("one that is left", j, j.block(j.then(j.then(just(j, num(j, 1)), print(j, num(j, 7))),
                j.block(just(j, num(j, 1))))), 5, 3);
        is("it is run", optimisedRun(j, 0), "n:7 ");
        is("its steps", j.steps(), 3);
    }

    private static void emptiedStatementsRun() {
        Sequencepoint j = bench();
        int set = put(j, X, num(j, 3));
        int one = j.branch(j.name(X), just(j, num(j, 1)), print(j, num(j, 8)));
        int two = j.branch(j.unary('!', j.name(X)), print(j, num(j, 9)), just(j, num(j, 1)));
        int loop = j.repeat(j.unary('d', j.name(X)), just(j, num(j, 1)));
        int life = j.block(all(j, j.declare(LOCAL), put(j, LOCAL, num(j, 5)), print(j, j.name(LOCAL))));
        j.setBody(0, all(j, set, one, two, loop, life, print(j, j.name(X))));
        is("run", again(j, 0), "n:5 0 ");
        is("steps", j.steps(), 5 + 3 + (2 + 2) + (3 + 2) + (1 + 3 + 2 * 2) + (3 + 1 + 3 + 2) + 2);
        is("optimised run", optimisedRun(j, 0), "n:5 0 ");
        is("steps of it", j.steps(), 5 + 3 + 2 + 3 + (1 + 3) + (3 + 1 + 3 + 2) + 2);
        is("as if", j.isAsIf() ? 1 : 0, 1);
        is("optimiser", j.optimised(), 3);
        int gone = j.name(LOCAL);
        j.setBody(0, j.then(j.block(j.then(j.declare(LOCAL), put(j, LOCAL, num(j, 5)))), print(j, gone)));
        is("lives end", optimisedRun(j, 0), "xd" + gone);
    }

    private static void functionByFunction() {
        Sequencepoint j = bench();
        int f = j.addFunction(2, LOCAL, -1);
        int g = j.addFunction(2, -1, -1);
        j.setBody(f, j.simple('r', j.binary('+', j.name(LOCAL), j.binary('*', num(j, 2), num(j, 3)))));
        refuses("no function 0 yet", STATE, j::optimised);
        folds("all bodies", j, print(j, j.call(f, j.unary('-', num(j, 1)), -1)), 2, 3 + 4);
        is("run", optimisedRun(j, 0), "n:5 ");
        is("its steps", j.steps(), 3 + 4);
        j.setBody(g, just(j, num(j, 1)));
        is("a body that becomes nothing", j.optimised(), 3);
        is("the size of the others", j.optimisedSize(), 3 + 4);
        int call = j.call(g, -1, -1);
        folds("a call of it", j, print(j, call), 2, 2 + 4);
        is("ends without a return", optimisedRun(j, 0), "xi" + call);
        is("its steps", j.steps(), 2);
        is("as it does before", again(j, 0), "xi" + call);
        is("its steps", j.steps(), 4);
        int old = j.simple('r', j.cast(1, num(j, 300)));
        j.setBody(g, old);
        is("of the present one", j.optimised(), 2);
        j.setBody(g, j.simple('r', j.name(X)));
        is("not of what is no body", j.optimised(), 1);
        is("its size", j.optimisedSize(), 2 + 4 + 2);
    }

    private static void theProgramIsLeftAlone() {
        Sequencepoint j = bench();
        int zero = j.binary('/', num(j, 1), j.binary('-', num(j, 2), num(j, 2)));
        int chosen = j.choose(num(j, 0), num(j, 1), j.binary(',', num(j, 1), zero));
        j.setBody(0, j.then(just(j, num(j, 1)), print(j, chosen)));
        for (int k = 0; k < 3; k++) {
            is("as it is", again(j, k), "xz" + zero);
            is("steps", j.steps(), 1 + 2 + 1 + (1 + 1) + (1 + 1) + (1 + 1 + 3));
            is("optimised", optimisedRun(j, k), "xz" + zero);
            is("steps of it", j.steps(), 1 + 1 + 3);
            is("steps of the optimiser", j.optimised(), 5);
            is("size", j.optimisedSize(), 5);
        }
        is("types are left", j.typeOf(chosen), 2);
    }

    public static void main(String[] args) {
        about("Of numbers that are told, becomes the number that it gives.", OptimiserBoundsTest::numbersThatAreTold);
        about("If it has a meaning.", OptimiserBoundsTest::whatHasNoMeaning);
        about("Of its type.", OptimiserBoundsTest::typesOfWhatIsGiven);
        about("Whose first part is a number that is told and decides.", OptimiserBoundsTest::decisions);
        about("Becomes the part that is taken, of numbers with a cast to its type around it.",
                OptimiserBoundsTest::choicesTaken);
        about("Places are not changed, but their pointers may be.", OptimiserBoundsTest::places);
        about("Become nothing.", OptimiserBoundsTest::statementsThatBecomeNothing,
                OptimiserBoundsTest::conditionsThatAreNotTold,
                OptimiserBoundsTest::statementsOfNothing, OptimiserBoundsTest::emptiedStatementsRun);
        about("Function by function.", OptimiserBoundsTest::functionByFunction);
        about("Made from the present one.", OptimiserBoundsTest::theProgramIsLeftAlone);
        finish("OptimiserBoundsTest");
    }
}
