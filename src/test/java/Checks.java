import java.util.NoSuchElementException;

/** What the tests of Sequencepoint share: checks that are counted, and short ways to build programs. */
abstract class Checks {
    static final Class<?> ARGUMENT = IllegalArgumentException.class;
    static final Class<?> INDEX = IndexOutOfBoundsException.class;
    static final Class<?> UNSUPPORTED = UnsupportedOperationException.class;
    static final Class<?> STATE = IllegalStateException.class;
    static final Class<?> NONE = NoSuchElementException.class;

    private static int passed;
    private static int failed;
    private static String about = "";

    interface Call {
        void make();
    }

    static void is(String what, long got, long due) {
        if (got == due) {
            passed++;
        } else {
            failed++;
            System.out.println(about + ": " + what + " answered " + got + ", due is " + due);
        }
    }

    static void is(String what, String got, String due) {
        is(what + " '" + got + "' against '" + due + "'", got.equals(due) ? 1 : 0, 1);
    }

    static void refuses(String what, Class<?> due, Call call) {
        Class<?> got = null;
        try {
            call.make();
        } catch (RuntimeException e) {
            got = e.getClass();
        }
        is(what + " threw " + got + ", due is " + due, got == due ? 1 : 0, 1);
    }

    // Building programs shortly

    /** A judge with the function 0, which has no parameters and gives the type 2. */
    static Sequencepoint judge() {
        Sequencepoint j = new Sequencepoint();
        j.addFunction(2, -1, -1);
        return j;
    }

    static int num(Sequencepoint j, int value) {
        return j.number(value, 2);
    }

    static int put(Sequencepoint j, int variable, int node) {
        return j.simple('e', j.assign('s', j.name(variable), node));
    }

    static int print(Sequencepoint j, int node) {
        return j.simple('p', node);
    }

    static int all(Sequencepoint j, int... statements) {
        int whole = statements[0];
        for (int k = 1; k < statements.length; k++) {
            whole = j.then(whole, statements[k]);
        }
        return whole;
    }

    /** Gives function 0 these statements, runs it, and tells the end, the kind and place, and what was printed. */
    static String told(Sequencepoint j, int order, int... statements) {
        j.setBody(0, all(j, statements));
        return again(j, order);
    }

    static String again(Sequencepoint j, int order) {
        char end = j.run(order);
        return (end == 'x' ? "x" + j.kindOf() + j.placeOf() : "" + end) + text(j);
    }

    static String text(Sequencepoint j) {
        StringBuilder text = new StringBuilder();
        for (int k = 0; k < j.printed(); k++) {
            text.append(k == 0 ? ":" : "").append(j.printedAt(k));
        }
        return text.toString();
    }

    /** What is printed of a node, or how the run ended otherwise, without the number of the place. */
    static String value(Sequencepoint j, int node) {
        j.setBody(0, print(j, node));
        char end = j.run(0);
        return end == 'n' ? text(j).substring(1).trim() : end == 'x' ? "" + j.kindOf() : "" + end;
    }

    static String two(char kind, int first, int firstType, int second, int secondType) {
        Sequencepoint j = judge();
        return value(j, j.binary(kind, j.number(first, firstType), j.number(second, secondType)));
    }

    static void fillNodes(Sequencepoint j) {
        while (true) {
            try {
                j.number(0, 0);
            } catch (IllegalStateException e) {
                return;
            }
        }
    }

    static void fillStatements(Sequencepoint j, int variable) {
        while (true) {
            try {
                j.declare(variable);
            } catch (IllegalStateException e) {
                return;
            }
        }
    }

    static int deepNode(Sequencepoint j, int depth) {
        int node = num(j, 1);
        for (int k = 1; k < depth; k++) {
            node = j.unary('-', node);
        }
        return node;
    }

    static int deepStatement(Sequencepoint j, int depth) {
        int statement = j.simple('e', num(j, 1));
        for (int k = 1; k < depth; k++) {
            statement = j.block(statement);
        }
        return statement;
    }

    /** Makes the tests of one promise or sentence, whose name stands ahead of each answer that is not the one due. */
    static void about(String name, Call... tests) {
        about = name;
        for (Call test : tests) {
            test.make();
        }
    }

    static void finish(String test) {
        System.out.println(test + ": " + passed + " passed, " + failed + " failed");
        if (failed > 0) {
            System.exit(1);
        }
    }
}
