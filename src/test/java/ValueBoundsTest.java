/** What the document says of numbers at the bounds of their types: each act with the edges of each type. */
public final class ValueBoundsTest extends Checks {
    private static final String NUMBERED = "+-*/%&|^lr<=";

    private static int bits(int type) {
        return new int[] {8, 8, 16, 16, 32, 32}[type];
    }

    private static boolean isSigned(int type) {
        return type == 0 || type == 2 || type == 4;
    }

    private static long low(int type) {
        return isSigned(type) ? -(1L << bits(type) - 1) : 0;
    }

    private static long high(int type) {
        return low(type) + (1L << bits(type)) - 1;
    }

    private static boolean has(int type, long value) {
        return value >= low(type) && value <= high(type);
    }

    /** The lowest bits of a value, as the type takes them. */
    private static long wrap(long value, int type) {
        long rest = Math.floorMod(value, 1L << bits(type));
        return rest > high(type) ? rest - (1L << bits(type)) : rest;
    }

    private static int promoted(int type) {
        return Math.max(type, 2);
    }

    private static int one(int first, int second) {
        int a = promoted(first);
        int b = promoted(second);
        if (bits(a) != bits(b)) {
            return bits(a) > bits(b) ? a : b;
        }
        return isSigned(a) ? b : a;
    }

    private static long[] edges(int type) {
        long low = low(type);
        long high = high(type);
        return isSigned(type) ? new long[] {low, low + 1, -1, 0, 1, 2, high - 1, high}
                : new long[] {0, 1, 2, high / 2, high / 2 + 1, high - 1, high};
    }

    /** A node with this value and type; what is too large for number() is the cast of another one. */
    private static int exactly(Sequencepoint j, long value, int type) {
        return value > Integer.MAX_VALUE ? j.cast(5, j.number((int) value, 4)) : j.number((int) value, type);
    }

    private static String due(char kind, long first, int firstType, long second, int secondType) {
        int type = kind == 'l' || kind == 'r' ? promoted(firstType) : one(firstType, secondType);
        long x = wrap(first, type);
        long y = kind == 'l' || kind == 'r' ? second : wrap(second, type);
        switch (kind) {
            case '+': return within(x + y, type);
            case '-': return within(x - y, type);
            case '*': return within(x * y, type);
            case '/': return y == 0 ? "z" : within(x / y, type);
            case '%': return y == 0 ? "z" : within(x % y, type);
            case '&': return within(x & y, type);
            case '|': return within(x | y, type);
            case '^': return within(x ^ y, type);
            case '<': return x < y ? "1" : "0";
            case '=': return x == y ? "1" : "0";
            default: break;
        }
        if (y < 0 || y >= bits(type)) {
            return "s";
        }
        if (kind == 'r') {
            return "" + Math.floorDiv(x, 1L << y);
        }
        long result = x * (1L << y);
        boolean isWrong = isSigned(type) && (x < 0 || !has(type, result));
        return isWrong ? "s" : "" + wrap(result, type);
    }

    private static String within(long value, int type) {
        return isSigned(type) && !has(type, value) ? "o" : "" + wrap(value, type);
    }

    /** What a program prints of a node, as it is and optimised. */
    private static void gives(String what, Sequencepoint j, int node, String due) {
        is(what, value(j, node), due);
        char end = j.runOptimised(0);
        String got = end == 'x' ? "" + j.kindOf() : end != 'n' ? "" + end : text(j).substring(1).trim();
        is(what + " optimised", got, due);
        is(what + " for isAsIf", j.isAsIf() ? 1 : 0, 1);
        boolean isFault = due.length() == 1 && Character.isLetter(due.charAt(0));
        is(what + " for undefinedOrders", j.undefinedOrders(), isFault ? 16 : 0);
    }

    private static void twoNumbers() {
        for (int a = 0; a < 6; a++) {
            for (int b = 0; b < 6; b++) {
                for (long x : edges(a)) {
                    for (long y : edges(b)) {
                        Sequencepoint j = judge();
                        for (char kind : NUMBERED.toCharArray()) {
                            int node = j.binary(kind, exactly(j, x, a), exactly(j, y, b));
                            is(x + " of " + a + " " + kind + " " + y + " of " + b, value(j, node),
                                    due(kind, x, a, y, b));
                        }
                    }
                }
            }
        }
    }

    private static void twoNumbersFolded() {
        for (int a = 0; a < 6; a++) {
            for (int b = 0; b < 6; b++) {
                for (int k = 0; k < 7; k++) {
                    long x = edges(a)[k];
                    long y = edges(b)[(k * 3 + a) % 7];
                    for (char kind : NUMBERED.toCharArray()) {
                        Sequencepoint j = judge();
                        int node = j.binary(kind, exactly(j, x, a), exactly(j, y, b));
                        gives(x + " of " + a + " " + kind + " " + y + " of " + b, j, node, due(kind, x, a, y, b));
                    }
                }
            }
        }
    }

    private static void shifts() {
        for (int a = 0; a < 6; a++) {
            int all = bits(promoted(a));
            for (long x : edges(a)) {
                for (int b = 0; b < 6; b++) {
                    for (int by : new int[] {-1, 0, 1, 7, 8, all - 2, all - 1, all, all + 1, 127}) {
                        if (has(b, by)) {
                            Sequencepoint j = judge();
                            gives(x + " of " + a + " l " + by, j, j.binary('l', exactly(j, x, a), j.number(by, b)),
                                    due('l', x, a, by, b));
                            gives(x + " of " + a + " r " + by, j, j.binary('r', exactly(j, x, a), j.number(by, b)),
                                    due('r', x, a, by, b));
                        }
                    }
                }
            }
        }
        Sequencepoint j = judge();
        gives("far too many", j, j.binary('r', num(j, 1), j.cast(5, j.number(-1, 4))), "s");
        gives("far too few", j, j.binary('l', num(j, 1), j.number(Integer.MIN_VALUE, 4)), "s");
        gives("64", j, j.binary('l', j.number(1, 5), num(j, 64)), "s");
        gives("a number below 0 by too many", j, j.binary('l', num(j, -1), num(j, 16)), "s");
        gives("the type of the first one", j, j.unary('~', j.binary('r', j.number(0, 3), j.number(0, 5))), "65535");
    }

    private static void oneNumber() {
        for (int type = 0; type < 6; type++) {
            for (long x : edges(type)) {
                Sequencepoint j = judge();
                int up = promoted(type);
                gives("- of " + x, j, j.unary('-', exactly(j, x, type)), within(-x, up));
                gives("~ of " + x, j, j.unary('~', exactly(j, x, type)), "" + wrap(-1 - x, up));
                gives("! of " + x, j, j.unary('!', exactly(j, x, type)), x == 0 ? "1" : "0");
                for (int to = 0; to < 6; to++) {
                    gives(x + " cast to " + to, j, j.cast(to, exactly(j, x, type)), "" + wrap(x, to));
                }
            }
        }
    }

    private static void changedPlaces() {
        for (int type = 0; type < 6; type++) {
            for (long x : edges(type)) {
                for (char kind : "idID".toCharArray()) {
                    Sequencepoint j = judge();
                    int v = j.addVariable(type, 0, true);
                    int node = j.unary(kind, j.name(v));
                    boolean isUp = kind == 'i' || kind == 'I';
                    String sum = due(isUp ? '+' : '-', x, type, 1, 2);
                    boolean isFault = sum.equals("o");
                    String after = isFault ? sum : "" + wrap(Long.parseLong(sum), type);
                    String given = kind == 'i' || kind == 'd' ? after : "" + x;
                    int set = put(j, v, exactly(j, x, type));
                    is(kind + " of " + x + " of the type " + type, told(j, 0, set, print(j, node), print(j, j.name(v))),
                            isFault ? "xo" + node : "n:" + given + " " + after + " ");
                }
            }
        }
    }

    private static void assigned() {
        for (int a = 0; a < 6; a++) {
            for (int b = 0; b < 6; b++) {
                for (long y : edges(b)) {
                    Sequencepoint j = judge();
                    int v = j.addVariable(a, 0, true);
                    long kept = wrap(y, a);
                    is(y + " of " + b + " put into " + a, told(j, 0,
                            print(j, j.assign('s', j.name(v), exactly(j, y, b))),
                            print(j, j.name(v))), "n:" + kept + " " + kept + " ");
                    for (long x : new long[] {low(a), 1, high(a)}) {
                        added(a, x, b, y);
                    }
                }
            }
        }
    }

    private static void added(int a, long x, int b, long y) {
        Sequencepoint j = judge();
        int v = j.addVariable(a, 0, true);
        int node = j.assign('p', j.name(v), exactly(j, y, b));
        String sum = due('+', x, a, y, b);
        String after = sum.equals("o") ? "xo" + node : "" + wrap(Long.parseLong(sum), a);
        int set = put(j, v, exactly(j, x, a));
        is(x + " of " + a + " and " + y + " of " + b, told(j, 0, set, print(j, node), print(j, j.name(v))),
                sum.equals("o") ? after : "n:" + after + " " + after + " ");
    }

    private static void passed() {
        for (int a = 0; a < 6; a++) {
            for (int b = 0; b < 6; b++) {
                for (long x : edges(b)) {
                    Sequencepoint j = judge();
                    int n = j.addVariable(a, 0, false);
                    int m = j.addVariable(b, 0, false);
                    int given = j.addFunction(5, n, m);
                    int back = j.addFunction(a, m, -1);
                    j.setBody(given, j.then(j.then(print(j, j.name(n)), print(j, j.name(m))),
                            j.simple('r', num(j, 1))));
                    j.setBody(back, j.simple('r', j.name(m)));
                    int call = j.call(given, exactly(j, x, b), exactly(j, x, b));
                    int result = j.call(back, exactly(j, x, b), -1);
                    is(x + " of " + b + " given to " + a, told(j, 0, j.simple('e', call), print(j, result)),
                            "n:" + wrap(x, a) + " " + x + " " + wrap(x, a) + " ");
                }
            }
        }
    }

    private static void chosen() {
        for (int a = 0; a < 6; a++) {
            for (int b = 0; b < 6; b++) {
                for (long x : edges(a)) {
                    Sequencepoint j = judge();
                    int type = one(a, b);
                    gives(x + " of " + a + " beside " + b, j, j.choose(num(j, 1), exactly(j, x, a), j.number(0, b)),
                            "" + wrap(x, type));
                    gives(x + " of " + a + " behind " + b, j, j.choose(num(j, 0), j.number(0, b), exactly(j, x, a)),
                            "" + wrap(x, type));
                }
            }
        }
    }

    private static void conditions() {
        for (int type = 0; type < 6; type++) {
            for (long x : edges(type)) {
                String holds = x != 0 ? "1" : "0";
                Sequencepoint j = judge();
                gives(x + " chooses", j, j.choose(exactly(j, x, type), num(j, 1), num(j, 0)), holds);
                gives(x + " and", j, j.binary('a', exactly(j, x, type), num(j, 5)), holds);
                gives("and " + x, j, j.binary('a', num(j, 5), exactly(j, x, type)), holds);
                gives(x + " or", j, j.binary('o', exactly(j, x, type), num(j, 0)), holds);
                gives("or " + x, j, j.binary('o', num(j, 0), exactly(j, x, type)), holds);
                is("branch by " + x, told(j, 0, j.branch(exactly(j, x, type), print(j, num(j, 1)),
                        print(j, num(j, 0)))),
                        "n:" + holds + " ");
                is("repeat by " + x, told(j, 0, j.repeat(exactly(j, x, type), j.simple('r', num(j, 1))),
                        print(j, num(j, 0))),
                        x != 0 ? "n" : "n:0 ");
            }
        }
        Sequencepoint j = judge();
        int v = j.addVariable(2, 1, true);
        gives("a pointer chooses", j, j.choose(j.name(v), num(j, 1), num(j, 0)), "1");
        gives("a pointer and", j, j.binary('a', j.name(v), num(j, 5)), "1");
        gives("and a pointer", j, j.binary('a', num(j, 5), j.name(v)), "1");
        gives("a pointer or", j, j.binary('o', j.name(v), j.binary('/', num(j, 1), num(j, 0))), "1");
        gives("or a pointer", j, j.binary('o', num(j, 0), j.name(v)), "1");
        gives("! of a pointer", j, j.unary('!', j.name(v)), "0");
        is("branch by a pointer", told(j, 0, j.branch(j.name(v), print(j, num(j, 1)), print(j, num(j, 0)))), "n:1 ");
        is("repeat by a pointer", told(j, 0, j.repeat(j.name(v), j.simple('r', num(j, 1))), print(j, num(j, 0))), "n");
    }

    /** The second part is evaluated only if the first one does not decide; here it has no meaning. */
    private static void decided() {
        Sequencepoint j = judge();
        for (int first = -1; first < 2; first++) {
            gives(first + " a", j, j.binary('a', num(j, first), j.binary('/', num(j, 1), num(j, 0))),
                    first == 0 ? "0" : "z");
            gives(first + " o", j, j.binary('o', num(j, first), j.binary('/', num(j, 1), num(j, 0))),
                    first == 0 ? "z" : "1");
            gives(first + " ,", j, j.binary(',', num(j, first), j.binary('/', num(j, 1), num(j, 0))), "z");
            gives(first + " chooses the first", j, j.choose(num(j, first), num(j, 7),
                    j.binary('/', num(j, 1), num(j, 0))),
                    first == 0 ? "z" : "7");
            gives(first + " chooses the second", j, j.choose(num(j, first), j.binary('/', num(j, 1), num(j, 0)),
                    num(j, 7)),
                    first == 0 ? "7" : "z");
        }
        gives("the first one of ,", j, j.binary(',', j.binary('%', num(j, 1), num(j, 0)), num(j, 7)), "z");
    }

    private static void printedValues() {
        long[] values = {0, 1, -1, 9, 10, -10, 99, 100, 101, 1000000000, 999999999, 2147483647, -2147483648L,
                2147483648L,
            4294967295L, 4000000000L, -2147483647, -1000000000};
        for (long value : values) {
            Sequencepoint j = judge();
            j.setBody(0, print(j, exactly(j, value, value > 2147483647 ? 5 : 4)));
            is("end", j.run(0), 'n');
            is("with a blank behind it", text(j), ":" + value + " ");
            is("characters", j.printed(), ("" + value).length() + 1);
        }
    }

    public static void main(String[] args) {
        about("By taking the lowest bits; promoted; 1 if it is 0 or null.", ValueBoundsTest::oneNumber);
        about("Two numbers get one type; a result that its signed type has not.", ValueBoundsTest::twoNumbers);
        about("If it has a meaning, becomes the number that it gives, of its type.", ValueBoundsTest::twoNumbersFolded);
        about("A shift by a number less than 0, or not less than the number of bits.", ValueBoundsTest::shifts);
        about("A number plus or less the number 1 of the type 2.", ValueBoundsTest::changedPlaces);
        about("Puts the second part, converted; the sum, likewise.", ValueBoundsTest::assigned);
        about("With the value of its part, converted to its type; converted to the result type.",
                ValueBoundsTest::passed);
        about("Converted to the one type that both numbers get.", ValueBoundsTest::chosen);
        about("A condition holds if it is not 0, or no null pointer.", ValueBoundsTest::conditions);
        about("Only if the first one does not decide.", ValueBoundsTest::decided);
        about("Its value is printed, with a blank behind it.", ValueBoundsTest::printedValues);
        finish("ValueBoundsTest");
    }
}
