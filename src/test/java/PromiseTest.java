/** For each promise of the document: ordinary inputs, the edges that it names, and wrong inputs. */
public final class PromiseTest extends Checks {
    // Promises

    private static void newObject() {
        Sequencepoint j = new Sequencepoint();
        is("steps", j.steps(), 0);
        is("choices", j.choices(), 0);
        is("printed", j.printed(), 0);
        is("allSteps", j.allSteps(), 0);
        refuses("typeOf", INDEX, () -> j.typeOf(0));
        refuses("name", INDEX, () -> j.name(0));
        refuses("block", INDEX, () -> j.block(0));
        refuses("call", INDEX, () -> j.call(0, -1, -1));
        refuses("run", STATE, () -> j.run(0));
        is("first variable", j.addVariable(0, 0, false), 0);
        is("first function", j.addFunction(0, -1, -1), 0);
        is("first node", num(j, 0), 0);
        is("first statement", j.declare(0), 0);
    }

    private static void addVariable() {
        Sequencepoint j = new Sequencepoint();
        int[] wrongTypes = {-1, 6, 9, 16, 20, -10, Integer.MIN_VALUE, Integer.MAX_VALUE, Integer.MIN_VALUE + 10};
        for (int type : wrongTypes) {
            refuses("type " + type, ARGUMENT, () -> j.addVariable(type, 0, true));
        }
        refuses("length -1", ARGUMENT, () -> j.addVariable(0, -1, true));
        refuses("length 9", ARGUMENT, () -> j.addVariable(0, 9, true));
        refuses("pointers", ARGUMENT, () -> j.addVariable(12, 1, true));
        for (int k = 0; k < 6; k++) {
            is("number", j.addVariable(k, k == 5 ? 8 : k % 2, k % 2 == 0), k);
        }
        for (int k = 6; k < 10; k++) {
            is("pointer", j.addVariable(k == 9 ? 15 : k + 4, 0, false), k);
        }
        refuses("an eleventh", STATE, () -> j.addVariable(0, 0, true));
        refuses("a wrong eleventh", ARGUMENT, () -> j.addVariable(6, 0, true));
    }

    private static void addFunction() {
        Sequencepoint j = new Sequencepoint();
        int global = j.addVariable(2, 0, true);
        int array = j.addVariable(2, 1, false);
        int one = j.addVariable(2, 0, false);
        int pointer = j.addVariable(12, 0, false);
        refuses("result -1", ARGUMENT, () -> j.addFunction(-1, -1, -1));
        refuses("result 6", ARGUMENT, () -> j.addFunction(6, -1, -1));
        refuses("result a pointer", ARGUMENT, () -> j.addFunction(12, 99, -1));
        refuses("no first one", ARGUMENT, () -> j.addFunction(2, -1, one));
        refuses("variable 4", INDEX, () -> j.addFunction(2, 4, -1));
        refuses("variable -2", INDEX, () -> j.addFunction(2, -2, -1));
        refuses("second -2", INDEX, () -> j.addFunction(2, global, -2));
        refuses("global", UNSUPPORTED, () -> j.addFunction(2, global, -1));
        refuses("array", UNSUPPORTED, () -> j.addFunction(2, one, array));
        refuses("the same", UNSUPPORTED, () -> j.addFunction(2, one, one));
        is("two parameters", j.addFunction(5, one, pointer), 0);
        is("the same in another one", j.addFunction(0, pointer, one), 1);
        is("none", j.addFunction(2, -1, -1), 2);
        refuses("a fourth", STATE, () -> j.addFunction(2, -1, -1));
        refuses("a wrong fourth", UNSUPPORTED, () -> j.addFunction(2, global, -1));
        refuses("a wrong type ahead of all", ARGUMENT, () -> j.addFunction(7, 77, -1));
    }

    private static void setBody() {
        Sequencepoint j = judge();
        j.addFunction(2, -1, -1);
        int a = j.simple('e', num(j, 1));
        int b = j.simple('e', num(j, 2));
        int c = print(j, num(j, 3));
        int whole = j.block(a);
        refuses("function 2", INDEX, () -> j.setBody(2, b));
        refuses("function -1", INDEX, () -> j.setBody(-1, b));
        refuses("statement 4", INDEX, () -> j.setBody(0, 4));
        refuses("statement -1", INDEX, () -> j.setBody(0, -1));
        refuses("a part", UNSUPPORTED, () -> j.setBody(0, a));
        is("one body", j.setBody(0, whole), 1);
        refuses("a body already", UNSUPPORTED, () -> j.setBody(1, whole));
        refuses("its body already", UNSUPPORTED, () -> j.setBody(0, whole));
        is("two bodies", j.setBody(1, b), 2);
        is("another one", j.setBody(0, c), 2);
        is("run", again(j, 0), "n:3 ");
        is("free again", j.block(whole), 4);
        refuses("now a part", UNSUPPORTED, () -> j.setBody(0, whole));
    }

    private static void number() {
        Sequencepoint j = judge();
        refuses("type 6", ARGUMENT, () -> j.number(0, 6));
        refuses("type -1", ARGUMENT, () -> j.number(0, -1));
        refuses("type 12", ARGUMENT, () -> j.number(0, 12));
        int[][] edges = {{-128, 127}, {0, 255}, {-32768, 32767}, {0, 65535}, {Integer.MIN_VALUE, Integer.MAX_VALUE},
            {0, Integer.MAX_VALUE}};
        for (int k = 0; k < 6; k++) {
            int type = k;
            is("lowest", value(j, j.number(edges[k][0], k)), "" + edges[k][0]);
            is("highest", value(j, j.number(edges[k][1], k)), "" + edges[k][1]);
            if (k != 4) {
                refuses("below " + k, ARGUMENT, () -> j.number(edges[type][0] - 1, type));
            }
            if (k < 4) {
                refuses("above " + k, ARGUMENT, () -> j.number(edges[type][1] + 1, type));
            }
        }
        is("type", j.typeOf(11), 5);
        fillNodes(j);
        is("last one", j.typeOf(99), 0);
        refuses("a hundred and first", STATE, () -> j.number(0, 2));
        refuses("a wrong one", ARGUMENT, () -> j.number(300, 1));
    }

    private static void name() {
        Sequencepoint j = judge();
        int single = j.addVariable(3, 0, true);
        int array = j.addVariable(4, 1, true);
        int pointer = j.addVariable(11, 0, true);
        refuses("variable 3", INDEX, () -> j.name(3));
        refuses("variable -1", INDEX, () -> j.name(-1));
        is("single", j.typeOf(j.name(single)), 3);
        is("array", j.typeOf(j.name(array)), 14);
        is("pointer", j.typeOf(j.name(pointer)), 11);
        is("number", j.name(single), 3);
        fillNodes(j);
        refuses("a hundred and first", STATE, () -> j.name(single));
        refuses("a wrong one", INDEX, () -> j.name(9));
    }

    private static void unary() {
        Sequencepoint j = judge();
        int small = j.addVariable(1, 0, true);
        int pointer = j.addVariable(13, 0, true);
        int array = j.addVariable(5, 3, true);
        int node = j.name(small);
        for (char kind : "+p/ \u0000\u00ff\uffff".toCharArray()) {
            refuses("kind " + (int) kind, ARGUMENT, () -> j.unary(kind, 99));
        }
        refuses("no node", INDEX, () -> j.unary('-', 1));
        refuses("node -1", INDEX, () -> j.unary('-', -1));
        refuses("what no number points to", UNSUPPORTED, () -> j.unary('*', node));
        is("- promotes", j.typeOf(j.unary('-', node)), 2);
        refuses("a part", UNSUPPORTED, () -> j.unary('~', node));
        is("~ keeps", j.typeOf(j.unary('~', j.number(1, 5))), 5);
        is("! is 2", j.typeOf(j.unary('!', j.number(1, 5))), 2);
        is("! of a pointer", j.typeOf(j.unary('!', j.name(pointer))), 2);
        is("*", j.typeOf(j.unary('*', j.name(pointer))), 3);
        is("& of a name", j.typeOf(j.unary('&', j.name(small))), 11);
        is("& of *", j.typeOf(j.unary('&', j.unary('*', j.name(array)))), 15);
        for (char kind : "idID".toCharArray()) {
            is("type of " + kind, j.typeOf(j.unary(kind, j.name(small))), 1);
            is("type at a pointer", j.typeOf(j.unary(kind, j.name(pointer))), 13);
            refuses("of an array", UNSUPPORTED, () -> j.unary(kind, j.name(array)));
            refuses("of no place", UNSUPPORTED, () -> j.unary(kind, j.number(1, 2)));
            refuses("of a product", UNSUPPORTED, () -> j.unary(kind, j.binary('*', num(j, 1), num(j, 1))));
        }
        refuses("& of an array", UNSUPPORTED, () -> j.unary('&', j.name(array)));
        refuses("& of a pointer", UNSUPPORTED, () -> j.unary('&', j.name(pointer)));
        refuses("& of a number", UNSUPPORTED, () -> j.unary('&', j.number(0, 0)));
        refuses("- of a pointer", UNSUPPORTED, () -> j.unary('-', j.name(pointer)));
        refuses("~ of an array", UNSUPPORTED, () -> j.unary('~', j.name(array)));
        int deep = deepNode(j, 12);
        refuses("13 deep", UNSUPPORTED, () -> j.unary('-', deep));
        int free = j.number(1, 0);
        fillNodes(j);
        refuses("a hundred and first", STATE, () -> j.unary('-', free));
        refuses("too deep as well", UNSUPPORTED, () -> j.unary('-', deep));
    }

    private static void unaryValues() {
        Sequencepoint j = judge();
        is("-5", value(j, j.unary('-', num(j, 5))), "-5");
        is("- of the lowest", value(j, j.unary('-', num(j, -32768))), "o");
        is("- of the lowest of 8 bits", value(j, j.unary('-', j.number(-128, 0))), "128");
        is("- of the lowest of 32 bits", value(j, j.unary('-', j.number(Integer.MIN_VALUE, 4))), "o");
        is("- without sign", value(j, j.unary('-', j.number(1, 5))), "4294967295");
        is("- of 16 bits without sign", value(j, j.unary('-', j.number(1, 3))), "65535");
        is("- of 8 bits without sign", value(j, j.unary('-', j.number(255, 1))), "-255");
        is("~", value(j, j.unary('~', num(j, 5))), "-6");
        is("~ without sign", value(j, j.unary('~', j.number(0, 3))), "65535");
        is("~ of 8 bits without sign", value(j, j.unary('~', j.number(255, 1))), "-256");
        is("!0", value(j, j.unary('!', num(j, 0))), "1");
        is("!7", value(j, j.unary('!', num(j, 7))), "0");
    }

    private static void changingPlaces() {
        int[][] cases = {{'i', 5, 6, 6}, {'d', 5, 4, 4}, {'I', 5, 5, 6}, {'D', 5, 5, 4}};
        for (int[] one : cases) {
            Sequencepoint j = judge();
            int x = j.addVariable(2, 0, true);
            is((char) one[0] + " of a number", told(j, 0, put(j, x, num(j, one[1])),
                    print(j, j.unary((char) one[0], j.name(x))), print(j, j.name(x))), "n:" + one[2] + " " + one[3] + " ");
        }
        Sequencepoint j = judge();
        int small = j.addVariable(0, 0, true);
        int none = j.addVariable(1, 0, true);
        int wide = j.addVariable(4, 0, true);
        is("8 bits wrap", told(j, 0, put(j, small, num(j, 127)), print(j, j.unary('i', j.name(small)))), "n:-128 ");
        is("without sign wraps", told(j, 0, put(j, none, num(j, 0)), print(j, j.unary('d', j.name(none)))), "n:255 ");
        int first = put(j, wide, j.number(Integer.MIN_VALUE, 4));
        int down = j.unary('D', j.name(wide));
        is("32 bits do not", told(j, 0, first, print(j, down)), "xo" + down);
        int array = j.addVariable(2, 2, true);
        int p = j.addVariable(12, 0, true);
        int[] fill = {put(j, p, j.name(array)), j.simple('e', j.assign('s', j.unary('*', j.unary('I', j.name(p))), num(j, 7))),
            j.simple('e', j.assign('s', j.unary('*', j.unary('I', j.name(p))), num(j, 8)))};
        int over = j.unary('i', j.name(p));
        is("pointers move by parts", told(j, 0, all(j, fill), print(j, j.unary('*', j.unary('d', j.name(p)))),
                print(j, j.unary('*', j.unary('d', j.name(p)))), j.simple('e', j.unary('I', j.name(p))),
                j.simple('e', j.unary('I', j.name(p))), j.simple('e', over)), "xb" + over + ":8 7 ");
    }

    private static void cast() {
        Sequencepoint j = judge();
        int pointer = j.addVariable(12, 0, true);
        refuses("type 6", ARGUMENT, () -> j.cast(6, 99));
        refuses("a pointer type", ARGUMENT, () -> j.cast(12, 99));
        refuses("no node", INDEX, () -> j.cast(2, 0));
        int part = j.name(pointer);
        refuses("of a pointer", UNSUPPORTED, () -> j.cast(2, part));
        int number = j.number(40000, 3);
        is("type", j.typeOf(j.cast(2, number)), 2);
        refuses("a part", UNSUPPORTED, () -> j.cast(2, number));
        is("16 bits with sign", value(j, j.cast(2, j.number(40000, 3))), "-25536");
        is("8 bits", value(j, j.cast(1, j.number(-1, 4))), "255");
        is("8 bits with sign", value(j, j.cast(0, num(j, 384))), "-128");
        is("32 bits without sign", value(j, j.cast(5, num(j, -2))), "4294967294");
        is("it has its value", value(j, j.cast(4, j.number(65535, 3))), "65535");
        is("32 bits with sign", value(j, j.cast(4, j.cast(5, num(j, -2)))), "-2");
        int deep = deepNode(j, 12);
        refuses("13 deep", UNSUPPORTED, () -> j.cast(0, deep));
        int free = num(j, 1);
        fillNodes(j);
        refuses("a hundred and first", STATE, () -> j.cast(0, free));
        refuses("a wrong one", ARGUMENT, () -> j.cast(7, free));
    }

    private static void binary() {
        Sequencepoint j = judge();
        int p = j.addVariable(12, 0, true);
        int q = j.addVariable(12, 0, true);
        int r = j.addVariable(13, 0, true);
        for (char kind : "!~sx. \u00aa\u1234".toCharArray()) {
            refuses("kind " + (int) kind, ARGUMENT, () -> j.binary(kind, 99, 99));
        }
        int a = num(j, 1);
        refuses("no second", INDEX, () -> j.binary('+', a, 1));
        refuses("no first", INDEX, () -> j.binary('+', -1, a));
        refuses("the same", UNSUPPORTED, () -> j.binary('+', a, a));
        int[][] types = {{0, 0, 2}, {1, 0, 2}, {1, 1, 2}, {2, 3, 3}, {1, 3, 3}, {3, 4, 4}, {2, 5, 5}, {4, 5, 5}, {5, 0, 5}, {3, 3, 3}};
        for (int[] t : types) {
            is("one type", j.typeOf(j.binary('^', j.number(1, t[0]), j.number(1, t[1]))), t[2]);
        }
        is("shift", j.typeOf(j.binary('l', j.number(1, 1), j.number(1, 5))), 2);
        is("shift right", j.typeOf(j.binary('r', j.number(1, 5), j.number(1, 0))), 5);
        is("<", j.typeOf(j.binary('<', j.number(1, 5), j.number(1, 4))), 2);
        is("= of pointers", j.typeOf(j.binary('=', j.name(p), j.name(q))), 2);
        is("a", j.typeOf(j.binary('a', j.number(1, 5), j.name(p))), 2);
        is(",", j.typeOf(j.binary(',', j.number(1, 5), j.name(p))), 12);
        is("pointer +", j.typeOf(j.binary('+', j.name(p), j.number(1, 5))), 12);
        is("pointer -", j.typeOf(j.binary('-', j.name(r), j.number(1, 0))), 13);
        int np = j.name(p);
        int nq = j.name(q);
        int nr = j.name(r);
        int one = num(j, 1);
        refuses("number + pointer", UNSUPPORTED, () -> j.binary('+', one, np));
        refuses("pointer - pointer", UNSUPPORTED, () -> j.binary('-', np, nq));
        refuses("pointer * number", UNSUPPORTED, () -> j.binary('*', np, one));
        refuses("pointer l number", UNSUPPORTED, () -> j.binary('l', np, one));
        refuses("unlike pointers", UNSUPPORTED, () -> j.binary('<', np, nr));
        refuses("pointer = number", UNSUPPORTED, () -> j.binary('=', np, one));
        j.unary('-', a);
        refuses("a first that is a part", UNSUPPORTED, () -> j.binary('+', a, one));
        refuses("a second that is a part", UNSUPPORTED, () -> j.binary('+', one, a));
        int taken = num(j, 1);
        j.binary('+', num(j, 1), taken);
        refuses("a second part is a part", UNSUPPORTED, () -> j.unary('-', taken));
        int deep = deepNode(j, 12);
        refuses("13 deep", UNSUPPORTED, () -> j.binary(',', one, deep));
        fillNodes(j);
        refuses("a hundred and first", STATE, () -> j.binary('+', one, 99));
        refuses("no node", INDEX, () -> j.binary('+', one, 100));
    }

    private static void binaryValues() {
        is("+", two('+', 32767, 2, -1, 2), "32766");
        is("+ o", two('+', 32767, 2, 1, 2), "o");
        is("+ of 8 bits", two('+', 127, 0, 127, 0), "254");
        is("+ of 32 bits", two('+', 32767, 2, 1, 4), "32768");
        is("+ without sign", two('+', 65535, 3, 2, 2), "1");
        is("+ of mixed", two('+', 1, 5, -2, 4), "4294967295");
        is("- o", two('-', -32768, 2, 1, 2), "o");
        is("- of a number below 0", two('-', -32768, 2, -1, 2), "-32767");
        is("- without sign", two('-', 0, 3, 1, 2), "65535");
        is("* o", two('*', 256, 2, 128, 2), "o");
        is("*", two('*', -256, 2, 128, 2), "-32768");
        is("* without sign", two('*', 2147483647, 5, 2147483647, 5), "1");
        is("* o of 32 bits", two('*', 65536, 4, 32768, 4), "o");
        is("/ cuts", two('/', -7, 2, 2, 2), "-3");
        is("/ o", two('/', -32768, 2, -1, 2), "o");
        is("/ o of 32 bits", two('/', Integer.MIN_VALUE, 4, -1, 4), "o");
        is("/ z", two('/', 1, 2, 0, 2), "z");
        is("% z", two('%', 1, 5, 0, 0), "z");
        is("% cuts", two('%', -7, 2, 2, 2), "-1");
        is("% of the lowest", two('%', -32768, 2, -1, 2), "0");
        is("/ of mixed", two('/', -2, 4, 2, 5), "2147483647");
        is("&", two('&', -2, 2, 7, 2), "6");
        is("|", two('|', -8, 2, 3, 5), "4294967291");
        is("^", two('^', -1, 2, 5, 2), "-6");
        is("<", two('<', -1, 2, 1, 2), "1");
        is("< of mixed", two('<', -1, 4, 1, 5), "0");
        is("< of 16 bits mixed", two('<', -1, 2, 1, 3), "0");
        is("= of mixed", two('=', -1, 0, 65535, 3), "1");
        is("= unlike", two('=', -1, 0, 65535, 4), "0");
        is("l", two('l', 3, 2, 4, 2), "48");
        is("l s by the result", two('l', 1, 2, 15, 2), "s");
        is("l highest", two('l', 1, 2, 14, 2), "16384");
        is("l s below 0", two('l', -1, 2, 1, 2), "s");
        is("l s by the number", two('l', 1, 2, -1, 2), "s");
        is("l s by the bits", two('l', 1, 3, 16, 2), "s");
        is("l without sign", two('l', 65535, 3, 4, 2), "65520");
        is("l of 32 bits", two('l', 3, 5, 31, 5), "2147483648");
        is("l of 8 bits", two('l', 255, 1, 7, 4), "32640");
        is("l by a wider type", two('l', 1, 2, 15, 4), "s");
        is("l by 0", two('l', 5, 2, 0, 2), "5");
        is("l of 0", two('l', 0, 2, 3, 2), "0");
        is("r by a wider type", two('r', -1, 2, 1, 5), "-1");
        is("r", two('r', -9, 2, 1, 2), "-5");
        is("r s", two('r', 1, 4, 32, 2), "s");
        is("r s below 0", two('r', 1, 4, -1, 0), "s");
        is("r by many", two('r', -1, 4, 31, 1), "-1");
        is("r without sign", two('r', 65535, 3, 15, 2), "1");
        is("a", two('a', 2, 2, 3, 2), "1");
        is("a of 0", two('a', 2, 2, 0, 2), "0");
        is("o of 0", two('o', 0, 2, 0, 2), "0");
        is("o", two('o', 0, 2, 9, 2), "1");
        is(",", two(',', 0, 2, 9, 2), "9");
    }

    private static void decidedParts() {
        Sequencepoint j = judge();
        int x = j.addVariable(2, 0, true);
        int a = j.binary('a', num(j, 0), j.unary('i', j.name(x)));
        int o = j.binary('o', num(j, 3), j.unary('i', j.name(x)));
        int both = j.binary('a', num(j, 3), j.unary('i', j.name(x)));
        is("only if the first one does not decide", told(j, 0, put(j, x, num(j, 5)), print(j, a), print(j, o),
                print(j, j.name(x)), print(j, both), print(j, j.name(x))), "n:0 1 5 1 6 ");
        is("steps", j.steps(), 5 + 3 + 3 + 3 + 2 + 4 + 2);
    }

    private static void choose() {
        Sequencepoint j = judge();
        int p = j.addVariable(12, 0, true);
        int q = j.addVariable(14, 0, true);
        int a = num(j, 1);
        int b = num(j, 2);
        int c = j.number(3, 4);
        refuses("no node", INDEX, () -> j.choose(a, b, 3));
        refuses("node -1", INDEX, () -> j.choose(-1, b, c));
        refuses("the first two the same", UNSUPPORTED, () -> j.choose(a, a, c));
        refuses("the last two the same", UNSUPPORTED, () -> j.choose(a, b, b));
        refuses("the outer two the same", UNSUPPORTED, () -> j.choose(a, b, a));
        is("one type", j.typeOf(j.choose(a, b, c)), 4);
        refuses("a condition is a part", UNSUPPORTED, () -> j.unary('-', a));
        refuses("a first one is a part", UNSUPPORTED, () -> j.unary('-', b));
        refuses("a second one is a part", UNSUPPORTED, () -> j.unary('-', c));
        is("one type of both", j.typeOf(j.choose(num(j, 1), j.number(1, 4), num(j, 1))), 4);
        is("pointers", j.typeOf(j.choose(j.name(q), j.name(p), j.name(p))), 12);
        refuses("unlike pointers", UNSUPPORTED, () -> j.choose(num(j, 1), j.name(p), j.name(q)));
        refuses("a number and a pointer", UNSUPPORTED, () -> j.choose(num(j, 1), j.name(p), num(j, 0)));
        is("first", value(j, j.choose(num(j, -1), num(j, -5), j.number(7, 5))), "4294967291");
        is("second", value(j, j.choose(num(j, 0), num(j, -5), j.number(7, 5))), "7");
        int steps = print(j, j.choose(num(j, 0), j.binary('/', num(j, 1), num(j, 0)), num(j, 6)));
        is("the other one is not evaluated", told(j, 0, steps), "n:6 ");
        is("steps", j.steps(), 4);
        int deep = deepNode(j, 12);
        int x = num(j, 1);
        int y = num(j, 1);
        refuses("13 deep", UNSUPPORTED, () -> j.choose(deep, x, y));
        fillNodes(j);
        refuses("a hundred and first", STATE, () -> j.choose(99, x, y));
    }

    private static void assign() {
        Sequencepoint j = judge();
        int x = j.addVariable(0, 0, true);
        int p = j.addVariable(12, 0, true);
        int q = j.addVariable(13, 0, true);
        int array = j.addVariable(2, 2, true);
        refuses("kind e", ARGUMENT, () -> j.assign('e', 0, 0));
        int place = j.name(x);
        int part = num(j, 200);
        refuses("no place", INDEX, () -> j.assign('s', 2, part));
        refuses("no part", INDEX, () -> j.assign('s', place, -1));
        refuses("the same", UNSUPPORTED, () -> j.assign('s', place, place));
        refuses("a number is no place", UNSUPPORTED, () -> j.assign('s', part, place));
        int product = j.binary('*', num(j, 1), num(j, 1));
        refuses("a product is no place", UNSUPPORTED, () -> j.assign('s', product, num(j, 1)));
        refuses("an array is no place", UNSUPPORTED, () -> j.assign('s', j.name(array), j.name(p)));
        int set = j.assign('s', place, part);
        is("type", j.typeOf(set), 0);
        refuses("a part", UNSUPPORTED, () -> j.assign('s', place, num(j, 1)));
        is("converted and given", told(j, 0, print(j, set), print(j, j.name(x))), "n:-56 -56 ");
        is("pointer of its type", j.typeOf(j.assign('s', j.name(p), j.name(array))), 12);
        refuses("pointer of another type", UNSUPPORTED, () -> j.assign('s', j.name(q), j.name(array)));
        refuses("number into a pointer", UNSUPPORTED, () -> j.assign('s', j.name(p), num(j, 0)));
        refuses("pointer into a number", UNSUPPORTED, () -> j.assign('s', j.name(x), j.name(p)));
        refuses("p of a pointer", UNSUPPORTED, () -> j.assign('p', j.name(p), j.name(array)));
        is("p of a number to a pointer", j.typeOf(j.assign('p', j.name(p), num(j, 1))), 12);
        is("p", told(j, 0, put(j, x, num(j, 100)), print(j, j.assign('p', j.name(x), num(j, 100))),
                print(j, j.name(x))), "n:-56 -56 ");
        int over = j.assign('p', j.name(x), num(j, 32767));
        is("p o", told(j, 0, put(j, x, num(j, 1)), print(j, over)), "xo" + over);
        is("p of a pointer", told(j, 0, put(j, p, j.name(array)),
                j.simple('e', j.assign('s', j.unary('*', j.assign('p', j.name(p), num(j, 1))), num(j, 4))),
                print(j, j.unary('*', j.binary('+', j.name(array), num(j, 1))))), "n:4 ");
    }

    private static void assignLimits() {
        Sequencepoint j = judge();
        int x = j.addVariable(0, 0, true);
        int deep = deepNode(j, 12);
        int place = j.name(x);
        refuses("13 deep", UNSUPPORTED, () -> j.assign('p', place, deep));
        fillNodes(j);
        refuses("a hundred and first", STATE, () -> j.assign('p', place, 99));
        refuses("a wrong one", ARGUMENT, () -> j.assign('=', place, 99));
    }

    private static void call() {
        Sequencepoint j = judge();
        int n = j.addVariable(0, 0, false);
        int p = j.addVariable(12, 0, false);
        int array = j.addVariable(2, 2, true);
        int other = j.addVariable(3, 2, true);
        int one = j.addFunction(4, n, -1);
        int two = j.addFunction(1, p, n);
        int a = num(j, 300);
        refuses("no function", INDEX, () -> j.call(3, -1, -1));
        refuses("function -1", INDEX, () -> j.call(-1, -1, -1));
        refuses("no node", INDEX, () -> j.call(one, 1, -1));
        refuses("node -2", INDEX, () -> j.call(one, a, -2));
        refuses("too few", UNSUPPORTED, () -> j.call(one, -1, -1));
        refuses("too many", UNSUPPORTED, () -> j.call(0, a, -1));
        refuses("no first one", UNSUPPORTED, () -> j.call(one, -1, a));
        refuses("one of two", UNSUPPORTED, () -> j.call(two, j.name(array), -1));
        refuses("a number for a pointer", UNSUPPORTED, () -> j.call(two, a, num(j, 1)));
        refuses("another pointer", UNSUPPORTED, () -> j.call(two, j.name(other), a));
        refuses("a pointer for a number", UNSUPPORTED, () -> j.call(one, j.name(array), -1));
        refuses("the same", UNSUPPORTED, () -> j.call(two, a, a));
        is("type without parts", j.typeOf(j.call(0, -1, -1)), 2);
        is("type of the result", j.typeOf(j.call(one, a, -1)), 4);
        refuses("a part", UNSUPPORTED, () -> j.call(one, a, -1));
        is("two parts", j.typeOf(j.call(two, j.name(array), num(j, 1))), 1);
        int deep = deepNode(j, 12);
        refuses("13 deep", UNSUPPORTED, () -> j.call(one, deep, -1));
        int body = j.simple('r', j.binary('+', j.name(n), j.number(1000, 4)));
        j.setBody(one, body);
        int back = j.simple('r', j.binary('+', j.unary('*', j.name(p)), j.name(n)));
        j.setBody(two, back);
        is("a converted part", value(j, j.call(one, num(j, 300), -1)), "1044");
        int fill = j.simple('e', j.assign('s', j.unary('*', j.name(array)), num(j, 250)));
        is("a converted result", told(j, 0, fill, print(j, j.call(two, j.name(array), num(j, 10)))), "n:4 ");
        fillNodes(j);
        refuses("a hundred and first", STATE, () -> j.call(one, 99, -1));
    }

    private static void typeOf() {
        Sequencepoint j = judge();
        num(j, 1);
        j.number(1, 5);
        is("first", j.typeOf(0), 2);
        is("last", j.typeOf(1), 5);
        refuses("beyond", INDEX, () -> j.typeOf(2));
        refuses("before", INDEX, () -> j.typeOf(-1));
        refuses("far before", INDEX, () -> j.typeOf(Integer.MIN_VALUE));
    }

    private static void simple() {
        Sequencepoint j = judge();
        int p = j.addVariable(12, 0, true);
        int local = j.addVariable(2, 0, false);
        refuses("kind d", ARGUMENT, () -> j.simple('d', 99));
        refuses("no node", INDEX, () -> j.simple('e', 0));
        int a = num(j, 1);
        is("e", j.simple('e', a), 0);
        refuses("a part", UNSUPPORTED, () -> j.simple('e', a));
        int pointer = j.name(p);
        refuses("p of a pointer", UNSUPPORTED, () -> j.simple('p', pointer));
        refuses("r of a pointer", UNSUPPORTED, () -> j.simple('r', pointer));
        is("e of a pointer", j.simple('e', pointer), 1);
        is("p", j.simple('p', deepNode(j, 12)), 2);
        is("r", j.simple('r', num(j, 3)), 3);
        refuses("a node of a statement", UNSUPPORTED, () -> j.unary('-', a));
        int b = num(j, 1);
        fillStatements(j, local);
        refuses("a sixty-first", STATE, () -> j.simple('e', b));
        refuses("a wrong one", UNSUPPORTED, () -> j.simple('e', a));
    }

    private static void simpleRuns() {
        Sequencepoint j = judge();
        is("r ends function 0", told(j, 0, print(j, num(j, 1)), j.simple('r', num(j, 4)), print(j, num(j, 2))), "n:1 ");
        is("steps", j.steps(), 2 + 2 + 2);
        int[] many = new int[10];
        for (int k = 0; k < 10; k++) {
            many[k] = print(j, j.number(-123456789 - k, 4));
        }
        is("80 characters", told(j, 0, many),
                "n:-123456789 -123456790 -123456791 -123456792 -123456793 -123456794 -123456795 -12");
        is("printed", j.printed(), 80);
        is("it goes on", j.steps(), 9 + 20);
    }

    private static void declare() {
        Sequencepoint j = judge();
        int global = j.addVariable(2, 0, true);
        int x = j.addVariable(2, 0, false);
        int p = j.addVariable(12, 0, true);
        refuses("no variable", INDEX, () -> j.declare(3));
        refuses("variable -1", INDEX, () -> j.declare(-1));
        refuses("global", UNSUPPORTED, () -> j.declare(global));
        is("first statement", j.declare(x), 0);
        int read = j.name(x);
        is("not determined", told(j, 0, j.declare(x), print(j, read)), "xi" + read);
        int again = j.name(x);
        is("a new life", told(j, 0, j.declare(x), put(j, x, num(j, 1)), j.declare(x), print(j, again)), "xi" + again);
        int dead = j.unary('*', j.name(p));
        is("in place of the earlier one", told(j, 0, j.declare(x), put(j, x, num(j, 1)),
                put(j, p, j.unary('&', j.name(x))), j.declare(x), put(j, x, num(j, 2)), print(j, dead)), "xd" + dead);
        fillStatements(j, x);
        refuses("a sixty-first", STATE, () -> j.declare(x));
        refuses("a wrong one", UNSUPPORTED, () -> j.declare(global));
    }

    private static void branch() {
        Sequencepoint j = judge();
        int array = j.addVariable(2, 2, true);
        int a = num(j, 1);
        int s = print(j, num(j, 10));
        int t = print(j, num(j, 20));
        refuses("no node", INDEX, () -> j.branch(-1, s, t));
        refuses("no first", INDEX, () -> j.branch(a, -1, t));
        refuses("no second", INDEX, () -> j.branch(a, s, 2));
        refuses("second -2", INDEX, () -> j.branch(a, s, -2));
        refuses("the same", UNSUPPORTED, () -> j.branch(a, s, s));
        is("number", j.branch(a, s, t), 2);
        refuses("all parts", UNSUPPORTED, () -> j.branch(a, s, t));
        refuses("a node that is a part", UNSUPPORTED, () -> j.branch(a, print(j, num(j, 1)), -1));
        refuses("a first that is a part", UNSUPPORTED, () -> j.branch(num(j, 1), s, -1));
        refuses("a second that is a part", UNSUPPORTED, () -> j.branch(num(j, 1), print(j, num(j, 1)), t));
        is("first", told(j, 0, 2), "n:10 ");
        is("steps", j.steps(), 4);
        is("second", told(j, 0, j.branch(num(j, 0), print(j, num(j, 1)), print(j, num(j, 2)))), "n:2 ");
        is("none", told(j, 0, j.branch(num(j, 0), print(j, num(j, 1)), -1)), "n");
        is("steps without one", j.steps(), 2);
        is("a pointer holds", told(j, 0, j.branch(j.name(array), print(j, num(j, 1)), -1)), "n:1 ");
        int deep = deepStatement(j, 12);
        refuses("13 deep", UNSUPPORTED, () -> j.branch(num(j, 1), deep, -1));
        int x = j.addVariable(2, 0, false);
        int free = j.declare(x);
        int test = num(j, 1);
        fillStatements(j, x);
        refuses("a sixty-first", STATE, () -> j.branch(test, free, -1));
    }

    private static void repeat() {
        Sequencepoint j = judge();
        int x = j.addVariable(1, 0, true);
        int a = num(j, 1);
        int s = print(j, num(j, 10));
        refuses("no node", INDEX, () -> j.repeat(99, s));
        refuses("no statement", INDEX, () -> j.repeat(a, 1));
        is("number", j.repeat(a, s), 1);
        refuses("a node that is a part", UNSUPPORTED, () -> j.repeat(a, print(j, num(j, 1))));
        refuses("a statement that is a part", UNSUPPORTED, () -> j.repeat(num(j, 1), s));
        is("for ever", told(j, 0, 1).charAt(0), 'l');
        is("300 steps", j.steps(), 300);
        is("as long as it holds", told(j, 0, put(j, x, num(j, 3)),
                j.repeat(j.name(x), print(j, j.unary('D', j.name(x))))), "n:3 2 1 ");
        is("steps", j.steps(), 1 + 3 + 1 + 4 + 3 * 2);
        is("never", told(j, 0, j.repeat(num(j, 0), print(j, num(j, 1)))), "n");
        is("r leaves it", told(j, 0, j.repeat(num(j, 1), j.simple('r', num(j, 1)))), "n");
        int deep = deepStatement(j, 12);
        refuses("13 deep", UNSUPPORTED, () -> j.repeat(num(j, 1), deep));
        int y = j.addVariable(2, 0, false);
        int free = j.declare(y);
        int test = num(j, 1);
        fillStatements(j, y);
        refuses("a sixty-first", STATE, () -> j.repeat(test, free));
    }

    private static void then() {
        Sequencepoint j = judge();
        int s = print(j, num(j, 10));
        int t = print(j, num(j, 20));
        refuses("no first", INDEX, () -> j.then(-1, s));
        refuses("no second", INDEX, () -> j.then(s, 2));
        refuses("the same", UNSUPPORTED, () -> j.then(s, s));
        is("number", j.then(s, t), 2);
        refuses("a first that is a part", UNSUPPORTED, () -> j.then(s, print(j, num(j, 1))));
        refuses("a second that is a part", UNSUPPORTED, () -> j.then(print(j, num(j, 1)), t));
        is("one and then another", told(j, 0, 2), "n:10 20 ");
        refuses("a body", UNSUPPORTED, () -> j.then(print(j, num(j, 1)), 2));
        int deep = deepStatement(j, 12);
        refuses("13 deep", UNSUPPORTED, () -> j.then(print(j, num(j, 1)), deep));
        int x = j.addVariable(2, 0, false);
        int free = j.declare(x);
        fillStatements(j, x);
        refuses("a sixty-first", STATE, () -> j.then(free, 59));
        refuses("a wrong one", INDEX, () -> j.then(free, 60));
    }

    private static void block() {
        Sequencepoint j = judge();
        int x = j.addVariable(2, 0, false);
        int p = j.addVariable(12, 0, true);
        refuses("no statement", INDEX, () -> j.block(0));
        int s = j.declare(x);
        is("number", j.block(s), 1);
        refuses("a part", UNSUPPORTED, () -> j.block(s));
        int read = j.name(x);
        is("lives end behind it", told(j, 0, j.block(j.then(j.declare(x), put(j, x, num(j, 1)))), print(j, read)), "xd" + read);
        int gone = j.unary('*', j.name(p));
        is("pointers too", told(j, 0, j.block(j.then(j.declare(x), j.then(put(j, x, num(j, 1)),
                put(j, p, j.unary('&', j.name(x)))))), print(j, gone)), "xd" + gone);
        is("earlier lives stay", told(j, 0, j.declare(x), put(j, x, num(j, 3)), j.block(put(j, x, num(j, 4))),
                print(j, j.name(x))), "n:4 ");
        int lost = j.name(x);
        is("a life in place of another", told(j, 0, j.declare(x), put(j, x, num(j, 3)), j.block(j.declare(x)),
                print(j, lost)), "xd" + lost);
        int deep = deepStatement(j, 12);
        refuses("13 deep", UNSUPPORTED, () -> j.block(deep));
        int free = j.declare(x);
        fillStatements(j, x);
        refuses("a sixty-first", STATE, () -> j.block(free));
    }

    private static void run() {
        Sequencepoint j = new Sequencepoint();
        int n = j.addVariable(2, 0, false);
        refuses("no function", STATE, () -> j.run(-1));
        j.addFunction(2, -1, -1);
        refuses("no body", STATE, () -> j.run(0));
        j.addFunction(2, n, -1);
        j.setBody(1, print(j, num(j, 5)));
        refuses("only another one", STATE, () -> j.run(0));
        j.setBody(0, print(j, num(j, 7)));
        refuses("order -1", ARGUMENT, () -> j.run(-1));
        refuses("lowest order", ARGUMENT, () -> j.run(Integer.MIN_VALUE));
        is("steps are left alone", j.steps(), 0);
        is("run", again(j, Integer.MAX_VALUE), "n:7 ");
        Sequencepoint k = new Sequencepoint();
        int m = k.addVariable(2, 0, false);
        k.addFunction(2, m, -1);
        k.setBody(0, print(k, num(k, 7)));
        refuses("parameters", STATE, () -> k.run(0));
        refuses("parameters ahead of the order", STATE, () -> k.run(-1));
    }

    /** Functions 0, 1 and 2; 1 prints and gives its part, 2 adds its part to the global 0. */
    private static Sequencepoint withCalls() {
        Sequencepoint j = judge();
        int g = j.addVariable(2, 0, true);
        int n = j.addVariable(2, 0, false);
        j.addFunction(2, n, -1);
        j.addFunction(2, n, -1);
        j.setBody(1, j.then(print(j, j.name(n)), j.simple('r', j.name(n))));
        j.setBody(2, j.simple('r', j.assign('p', j.name(g), j.name(n))));
        return j;
    }

    private static int calling(Sequencepoint j, int function, int value) {
        return j.call(function, num(j, value), -1);
    }

    private static void orders() {
        for (char kind : "+-*&|^<=lr/%".toCharArray()) {
            Sequencepoint j = withCalls();
            int body = j.simple('e', j.binary(kind, calling(j, 1, 1), calling(j, 1, 2)));
            is(kind + " first first", told(j, 0, body), "n:1 2 ");
            is(kind + " second first", again(j, 1), "n:2 1 ");
            is(kind + " only the first bit", again(j, 2), "n:1 2 ");
            is(kind + " one choice", j.choices(), 1);
        }
        for (char kind : "ao,".toCharArray()) {
            Sequencepoint j = withCalls();
            int body = j.simple('e', j.binary(kind, calling(j, 1, kind == 'o' ? 0 : 1), calling(j, 1, 2)));
            is(kind + " is in order", told(j, 1, body), kind == 'o' ? "n:0 2 " : "n:1 2 ");
            is(kind + " has no choice", j.choices(), 0);
        }
        Sequencepoint j = withCalls();
        int nested = j.binary('+', j.binary('+', calling(j, 1, 1), calling(j, 1, 2)), j.binary('-', calling(j, 1, 3), calling(j, 1, 4)));
        String[] due = {"n:1 2 3 4 ", "n:3 4 1 2 ", "n:2 1 3 4 ", "n:4 3 1 2 ", "n:1 2 4 3 ", "n:3 4 2 1 ", "n:2 1 4 3 ", "n:4 3 2 1 "};
        j.setBody(0, j.simple('e', nested));
        for (int order = 0; order < 8; order++) {
            is("order " + order, again(j, order), due[order]);
            is("three choices", j.choices(), 3);
        }
        int one = j.simple('e', j.binary('+', num(j, 1), calling(j, 1, 5)));
        is("a call in one of both", told(j, 1, one), "n:5 ");
        is("no choice", j.choices(), 0);
    }

    private static void moreOrders() {
        Sequencepoint j = withCalls();
        int array = j.addVariable(2, 4, true);
        int place = j.unary('*', j.binary('+', j.name(array), calling(j, 1, 2)));
        int body = j.simple('e', j.assign('s', place, calling(j, 1, 3)));
        is("place first", told(j, 0, body), "n:2 3 ");
        is("place second", again(j, 1), "n:3 2 ");
        is("steps", j.steps(), 1 + 1 + 2 + 2 * 7);
        int sum = j.simple('e', j.assign('p', j.name(0), calling(j, 1, 3)));
        is("a name calls nothing", told(j, 1, put(j, 0, num(j, 1)), sum), "n:3 ");
        is("no choice", j.choices(), 0);
        int n = j.addVariable(2, 0, false);
        int loop = j.addVariable(2, 0, false);
        int wheel = j.repeat(j.binary('<', j.unary('i', j.name(loop)), num(j, 6)),
                j.simple('e', j.binary('+', calling(j, 2, 1), calling(j, 2, 1))));
        is("later choices", told(j, 0, j.declare(n), j.declare(loop), put(j, loop, num(j, 0)), put(j, 0, num(j, 0)), wheel,
                print(j, j.name(0))), "n:10 ");
        is("one each turn", j.choices(), 5);
    }

    private static void manyChoices() {
        Sequencepoint j = judge();
        int g = j.addVariable(2, 0, true);
        int turns = j.addVariable(2, 0, true);
        j.addFunction(2, -1, -1);
        j.setBody(1, j.simple('r', j.unary('I', j.name(g))));
        // 30 turns with a choice each; the one behind them looks at the bit 0 again.
        int turn = j.simple('e', j.binary('=', j.call(1, -1, -1), j.call(1, -1, -1)));
        int last = print(j, j.binary('-', j.call(1, -1, -1), j.call(1, -1, -1)));
        j.setBody(0, all(j, put(j, g, num(j, 0)), put(j, turns, num(j, 31)),
                j.repeat(j.unary('d', j.name(turns)), turn), last));
        is("bit 0 is 0", again(j, 0), "n:-1 ");
        is("choices", j.choices(), 31);
        is("steps", j.steps(), 3 + 3 + 3 + 1 + 31 + 30 * 8 + 8);
        is("bit 0 is 1", again(j, 1), "n:1 ");
        is("bit 1 is 1", again(j, 2), "n:-1 ");
        is("bit 30 is 1", again(j, 1 << 30), "n:-1 ");
        is("two behaviours", j.behaviours(), 2);
    }

    private static void laterChoice() {
        Sequencepoint j = judge();
        int g = j.addVariable(2, 0, true);
        int turns = j.addVariable(2, 0, true);
        j.addFunction(2, -1, -1);
        j.setBody(1, j.simple('r', j.unary('I', j.name(g))));
        int turn = j.simple('e', j.binary('=', j.call(1, -1, -1), j.call(1, -1, -1)));
        int last = print(j, j.binary('-', j.call(1, -1, -1), j.call(1, -1, -1)));
        j.setBody(0, all(j, put(j, g, num(j, 0)), put(j, turns, num(j, 20)),
                j.repeat(j.unary('d', j.name(turns)), turn), last));
        is("19 choices and one", again(j, 1 << 19), "n:1 ");
        is("choices", j.choices(), 20);
        is("not this bit", again(j, 1 << 18), "n:-1 ");
        is("one behaviour under the orders to 15", j.behaviours(), 1);
    }

    private static void kindU() {
        Sequencepoint j = judge();
        int x = j.addVariable(2, 0, true);
        int y = j.addVariable(2, 0, true);
        int[] start = {put(j, x, num(j, 1)), put(j, y, num(j, 1))};
        int wr = j.binary('+', j.unary('I', j.name(x)), j.name(x));
        is("written and read", told(j, 0, all(j, start), print(j, wr)), "xu" + wr);
        int rw = j.binary('*', j.name(x), j.assign('s', j.name(x), num(j, 1)));
        is("read and written", told(j, 0, put(j, x, num(j, 1)), print(j, rw)), "xu" + rw);
        int ww = j.binary('<', j.unary('i', j.name(x)), j.unary('d', j.name(x)));
        is("written twice", told(j, 0, put(j, x, num(j, 1)), print(j, ww)), "xu" + ww);
        is("read twice", told(j, 0, put(j, x, num(j, 1)), print(j, j.binary('+', j.name(x), j.name(x)))), "n:2 ");
        is("unlike objects", told(j, 0, put(j, x, num(j, 1)), put(j, y, num(j, 1)),
                print(j, j.binary('+', j.unary('i', j.name(x)), j.unary('i', j.name(y))))), "n:4 ");
        int own = j.assign('s', j.name(x), j.unary('I', j.name(x)));
        is("the place itself", told(j, 0, put(j, x, num(j, 1)), j.simple('e', own)), "xu" + own);
        is("the place is read", told(j, 0, put(j, x, num(j, 1)),
                print(j, j.assign('s', j.name(x), j.binary('+', j.name(x), num(j, 1))))), "n:2 ");
        for (char kind : "ao,".toCharArray()) {
            Sequencepoint k = judge();
            int v = k.addVariable(2, 0, true);
            is(kind + " is sequenced", told(k, 0, put(k, v, num(k, 0)),
                    print(k, k.binary(kind, k.unary(kind == 'o' ? 'I' : 'i', k.name(v)), k.name(v)))), "n:1 ");
        }
    }

    private static void moreOfKindU() {
        Sequencepoint j = judge();
        int x = j.addVariable(2, 0, true);
        int array = j.addVariable(2, 2, true);
        int p = j.addVariable(12, 0, true);
        int inner = j.assign('s', j.name(x), num(j, 0));
        int outer = j.unary('i', j.unary('*', j.binary(',', inner, j.unary('&', j.name(x)))));
        is("i of what a part has written", told(j, 0, j.simple('e', outer)), "xu" + outer);
        int parts = j.binary('+', j.assign('s', j.unary('*', j.name(array)), num(j, 1)),
                j.assign('s', j.unary('*', j.binary('+', j.name(array), num(j, 1))), num(j, 2)));
        is("unlike parts", told(j, 0, print(j, parts)), "n:3 ");
        int by = j.assign('s', j.unary('*', j.unary('I', j.name(p))), j.unary('*', j.name(p)));
        is("place and second part", told(j, 0, put(j, p, j.name(array)),
                j.simple('e', j.assign('s', j.unary('*', j.binary('+', j.name(array), num(j, 1))), num(j, 1))),
                j.simple('e', by)), "xu" + by);
        int n = j.addVariable(2, 0, false);
        int m = j.addVariable(2, 0, false);
        j.addFunction(2, n, m);
        j.setBody(1, j.simple('r', j.unary('i', j.name(x))));
        int call = j.call(1, j.unary('I', j.name(x)), j.name(x));
        is("both parts of a call", told(j, 0, put(j, x, num(j, 1)), print(j, call)), "xu" + call);
        is("not what calls do", told(j, 0, put(j, x, num(j, 1)),
                print(j, j.binary('+', j.name(x), j.call(1, num(j, 0), num(j, 0))))), "n:3 ");
        is("nor for the place", told(j, 0, put(j, x, num(j, 1)),
                print(j, j.assign('p', j.name(x), j.call(1, num(j, 0), num(j, 0))))), "n:4 ");
        int first = j.binary('/', j.unary('i', j.name(x)), j.binary('-', j.name(x), j.name(x)));
        is("ahead of z", told(j, 0, put(j, x, num(j, 1)), print(j, first)), "xu" + first);
        int ahead = j.assign('s', j.name(x), j.assign('s', j.name(x), num(j, 2)));
        is("in one another", told(j, 0, print(j, ahead)), "xu" + ahead);
    }

    private static void kindI() {
        Sequencepoint j = judge();
        int x = j.addVariable(2, 0, true);
        int array = j.addVariable(2, 2, true);
        int n = j.addVariable(2, 0, false);
        int read = j.name(x);
        is("a global one", told(j, 0, print(j, read)), "xi" + read);
        int up = j.unary('i', j.name(x));
        is("by i", told(j, 0, print(j, up)), "xi" + up);
        int sum = j.assign('p', j.name(x), num(j, 1));
        is("by p", told(j, 0, print(j, sum)), "xi" + sum);
        int part = j.unary('*', j.binary('+', j.name(array), num(j, 1)));
        is("another part", told(j, 0, j.simple('e', j.assign('s', j.unary('*', j.name(array)), num(j, 1))),
                print(j, part)), "xi" + part);
        j.addFunction(2, -1, -1);
        int missing = j.call(1, -1, -1);
        is("no body", told(j, 0, j.simple('e', missing)), "xi" + missing);
        j.setBody(1, j.branch(num(j, 0), j.simple('r', num(j, 1)), -1));
        int without = j.call(1, -1, -1);
        is("no return", told(j, 0, j.simple('e', without)), "xi" + without);
        is("not determined, but not read", told(j, 0, j.declare(n), j.simple('e', j.unary('&', j.name(n)))), "n");
        is("written first", told(j, 0, print(j, j.assign('s', j.name(x), num(j, 1)))), "n:1 ");
        int lives = j.name(x);
        is("each run anew", told(j, 0, print(j, lives)), "xi" + lives);
    }

    private static void kindD() {
        Sequencepoint j = judge();
        int x = j.addVariable(2, 0, false);
        int array = j.addVariable(2, 2, false);
        int p = j.addVariable(12, 0, true);
        int read = j.name(x);
        is("a name", told(j, 0, print(j, read)), "xd" + read);
        int name = j.name(array);
        is("a name of an array", told(j, 0, j.simple('e', name)), "xd" + name);
        int at = j.unary('&', j.name(x));
        is("below &", told(j, 0, j.simple('e', at)), "xd" + at);
        int set = j.assign('s', j.name(x), num(j, 1));
        is("as a place", told(j, 0, j.simple('e', set)), "xd" + set);
        int bump = j.unary('D', j.name(x));
        is("as a place of D", told(j, 0, j.simple('e', bump)), "xd" + bump);
        j.addFunction(2, -1, -1);
        j.setBody(1, all(j, j.declare(x), put(j, x, num(j, 1)), put(j, p, j.unary('&', j.name(x))), j.simple('r', num(j, 1))));
        int call = j.simple('e', j.call(1, -1, -1));
        int write = j.assign('s', j.unary('*', j.name(p)), num(j, 1));
        is("lives end with the call", told(j, 0, call, j.simple('e', write)), "xd" + write);
        int move = j.binary('+', j.name(p), num(j, 5));
        is("a pointer is moved", told(j, 0, j.simple('e', j.call(1, -1, -1)), j.simple('e', move)), "xd" + move);
        int next = j.unary('I', j.name(p));
        is("a pointer is moved by I", told(j, 0, j.simple('e', j.call(1, -1, -1)), j.simple('e', next)), "xd" + next);
        is("nothing is read", told(j, 0, j.simple('e', j.call(1, -1, -1)),
                j.simple('e', j.unary('&', j.unary('*', j.name(p)))),
                print(j, j.binary('=', j.name(p), j.name(p))), print(j, j.binary('<', j.name(p), j.name(p)))), "n:1 0 ");
        is("of the present call", told(j, 0, j.declare(x), put(j, x, num(j, 6)), j.simple('e', j.call(1, -1, -1)),
                print(j, j.name(x))), "n:6 ");
    }

    private static void kindsBAndP() {
        Sequencepoint j = judge();
        int x = j.addVariable(2, 0, true);
        int array = j.addVariable(2, 2, true);
        int end = j.binary('+', j.name(array), num(j, 2));
        is("behind the last one", told(j, 0, j.simple('e', end)), "n");
        int beyond = j.binary('+', j.name(array), num(j, 3));
        is("beyond", told(j, 0, j.simple('e', beyond)), "xb" + beyond);
        int before = j.binary('-', j.name(array), num(j, 1));
        is("before", told(j, 0, j.simple('e', before)), "xb" + before);
        int large = j.binary('+', j.name(array), j.cast(5, num(j, -1)));
        is("a large number", told(j, 0, j.simple('e', large)), "xb" + large);
        int read = j.unary('*', j.binary('+', j.name(array), num(j, 2)));
        is("read", told(j, 0, j.simple('e', read)), "xb" + read);
        int write = j.assign('s', j.unary('*', j.binary('+', j.unary('&', j.name(x)), num(j, 1))), num(j, 1));
        is("written", told(j, 0, j.simple('e', write)), "xb" + write);
        int unlike = j.binary('<', j.name(array), j.unary('&', j.name(x)));
        is("< of unlike objects", told(j, 0, j.simple('e', unlike)), "xp" + unlike);
        is("= of unlike objects", told(j, 0, print(j, j.binary('=', j.name(array), j.unary('&', j.name(x))))), "n:0 ");
        int other = j.addVariable(2, 2, true);
        is("behind is no other object", told(j, 0, print(j, j.binary('=', j.binary('+', j.name(array), num(j, 2)),
                j.name(other)))), "n:0 ");
        is("< in one object", told(j, 0, print(j, j.binary('<', j.name(array), j.binary('+', j.name(array), num(j, 2)))),
                print(j, j.binary('<', j.name(array), j.name(array)))), "n:1 0 ");
        is("back", told(j, 0, print(j, j.binary('=', j.binary('-', j.binary('+', j.name(array), num(j, 2)), num(j, 2)),
                j.name(array)))), "n:1 ");
    }

    private static void limits() {
        Sequencepoint j = judge();
        int n = j.addVariable(2, 0, false);
        j.addFunction(2, n, -1);
        // Calls itself as many times as its part tells.
        int more = j.simple('r', j.call(1, j.binary('-', j.name(n), num(j, 1)), -1));
        j.setBody(1, j.branch(j.name(n), more, j.simple('r', num(j, 9))));
        is("8 deep", told(j, 0, print(j, j.call(1, num(j, 6), -1))), "n:9 ");
        is("9 deep", told(j, 0, print(j, j.call(1, num(j, 7), -1))), "l");
        refuses("no kind", NONE, j::kindOf);
        int x = j.addVariable(2, 0, true);
        int turns = j.repeat(j.unary('D', j.name(x)), j.declare(n));
        j.setBody(0, j.then(put(j, x, num(j, 147)), turns));
        is("300 steps", j.run(0), 'n');
        is("steps", j.steps(), 1 + 3 + 1 + 147 * 2 + 1);
        int last = j.repeat(j.unary('D', j.name(x)), j.declare(n));
        j.setBody(0, j.block(all(j, put(j, x, num(j, 147)), last)));
        is("301 steps", j.run(0), 'l');
        is("300 of them", j.steps(), 300);
    }

    private static void deepest() {
        Sequencepoint j = judge();
        int call = j.call(0, -1, -1);
        for (int k = 1; k < 12; k++) {
            call = j.unary('-', call);
        }
        int statement = j.simple('e', call);
        for (int k = 1; k < 12; k++) {
            statement = j.block(statement);
        }
        j.setBody(0, statement);
        is("all as deep as can be", j.run(0), 'l');
        is("steps", j.steps(), 8 * 24);
    }

    private static void runOptimised() {
        Sequencepoint j = new Sequencepoint();
        refuses("no function", STATE, () -> j.runOptimised(-1));
        j.addFunction(2, -1, -1);
        refuses("no body", STATE, () -> j.runOptimised(0));
        j.setBody(0, print(j, j.binary('+', num(j, 1), num(j, 2))));
        refuses("order -1", ARGUMENT, () -> j.runOptimised(-1));
        is("run", j.runOptimised(3), 'n');
        is("printed", text(j), ":3 ");
        is("steps", j.steps(), 2);
        is("the program is as it was", again(j, 0), "n:3 ");
        is("its steps", j.steps(), 4);
        int x = j.addVariable(2, 0, true);
        int read = j.name(x);
        j.setBody(0, print(j, j.choose(num(j, 1), j.binary(',', num(j, 0), read), num(j, 1))));
        is("x", j.runOptimised(0), 'x');
        is("kind", j.kindOf(), 'i');
        is("place", j.placeOf(), read);
        j.setBody(0, j.simple('e', num(j, 1)));
        is("nothing", j.runOptimised(0), 'n');
        is("no steps", j.steps(), 0);
        j.addFunction(2, -1, -1);
        j.setBody(1, j.simple('e', num(j, 1)));
        int call = j.call(1, -1, -1);
        j.setBody(0, print(j, call));
        is("a call of nothing", j.runOptimised(0), 'x');
        is("its kind", j.kindOf(), 'i');
        is("its place", j.placeOf(), call);
        is("its steps", j.steps(), 2);
    }

    private static void kindOfAndPlaceOf() {
        Sequencepoint j = judge();
        refuses("kind of none", NONE, j::kindOf);
        refuses("place of none", NONE, j::placeOf);
        int wrong = j.binary('%', num(j, 1), num(j, 0));
        is("x", told(j, 0, print(j, wrong)), "xz" + wrong);
        is("kind again", j.kindOf(), 'z');
        is("place again", j.placeOf(), wrong);
        refuses("a refused run", ARGUMENT, () -> j.run(-1));
        is("kind is left alone", j.kindOf(), 'z');
        is("a fine one", told(j, 0, print(j, num(j, 1))), "n:1 ");
        refuses("kind of n", NONE, j::kindOf);
        refuses("place of n", NONE, j::placeOf);
        j.setBody(0, j.repeat(num(j, 1), j.simple('e', num(j, 1))));
        is("a long one", j.run(0), 'l');
        refuses("kind of l", NONE, j::kindOf);
        refuses("place of l", NONE, j::placeOf);
        j.setBody(0, print(j, j.unary('-', num(j, -32768))));
        is("undefinedOrders is no last run", j.undefinedOrders(), 16);
        refuses("kind still of l", NONE, j::kindOf);
    }

    private static void manyRuns() {
        Sequencepoint j = judge();
        int array = j.addVariable(0, 8, false);
        int x = j.addVariable(1, 0, true);
        int wheel = j.repeat(j.unary('i', j.name(x)), j.declare(array));
        j.setBody(0, j.then(put(j, x, num(j, 0)), wheel));
        for (int k = 0; k < 200; k++) {
            is("each is as the first one", j.run(k), 'l');
            is("steps", j.steps(), 300);
        }
        is("all steps", j.allSteps(), 60000);
        is("behaviours", j.behaviours(), 1);
        int wrong = j.unary('*', j.binary('+', j.name(array), num(j, 8)));
        is("then a short one", told(j, 0, j.declare(array), print(j, wrong)), "xb" + wrong);
    }

    private static void countsOfRuns() {
        Sequencepoint j = withCalls();
        j.setBody(0, print(j, j.binary('-', calling(j, 2, 1), calling(j, 2, 2))));
        is("not yet", j.steps() + j.choices() + j.printed(), 0);
        refuses("no character", INDEX, () -> j.printedAt(0));
        j.run(0);
        int wrong = j.steps();
        is("x", j.kindOf(), 'i');
        is("steps up to there", wrong, 1 + 1 + 2 + 3);
        is("choices", j.choices(), 1);
        int print = print(j, j.binary('-', calling(j, 2, 1), calling(j, 2, 2)));
        is("run", told(j, 0, put(j, 0, num(j, 0)), print), "n:-2 ");
        is("steps", j.steps(), 1 + 3 + 2 + 2 * 5);
        is("choices of this one", j.choices(), 1);
        is("printed", j.printed(), 3);
        is("a sign", j.printedAt(0), '-');
        is("a digit", j.printedAt(1), '2');
        is("a blank", j.printedAt(2), ' ');
        refuses("beyond", INDEX, () -> j.printedAt(3));
        refuses("before", INDEX, () -> j.printedAt(-1));
        is("all steps", j.allSteps(), wrong + 16);
        is("other order", again(j, 1), "n:1 ");
        is("behaviours", j.behaviours(), 2);
        is("steps are of the last run", j.steps(), 16);
        is("printed is of the last run", text(j), ":1 ");
        j.runOptimised(0);
        is("all steps with the optimised one", j.allSteps(), wrong + 48);
        is("isAsIf", j.isAsIf() ? 1 : 0, 1);
        is("share", (long) (16 * j.definedShare()), 16);
        is("only run and runOptimised count", j.allSteps(), wrong + 48);
    }

    private static void behaviours() {
        Sequencepoint j = new Sequencepoint();
        refuses("no function", STATE, j::behaviours);
        refuses("no function for undefinedOrders", STATE, j::undefinedOrders);
        refuses("no function for definedShare", STATE, j::definedShare);
        Sequencepoint k = withCalls();
        refuses("no body", STATE, k::behaviours);
        refuses("no body for undefinedOrders", STATE, k::undefinedOrders);
        refuses("no body for definedShare", STATE, k::definedShare);
        int calls = k.binary('+', k.binary('+', calling(k, 1, 1), calling(k, 1, 2)), k.binary('+', calling(k, 1, 3), calling(k, 1, 4)));
        k.setBody(0, k.simple('e', calls));
        is("eight", k.behaviours(), 8);
        is("none without meaning", k.undefinedOrders(), 0);
        is("share of all", Float.compare(k.definedShare(), 1f), 0);
        // One call divides by the global, which is 0 unless the other one comes first.
        Sequencepoint m = withCalls();
        m.setBody(1, m.simple('r', m.binary('/', num(m, 8), m.name(0))));
        m.setBody(0, m.then(put(m, 0, num(m, 0)), print(m, m.binary('+', calling(m, 1, 0), calling(m, 2, 2)))));
        is("two", m.behaviours(), 2);
        is("half of them", m.undefinedOrders(), 8);
        is("half of all", Float.compare(m.definedShare(), 0.5f), 0);
        is("true as it has no meaning under some", m.isAsIf() ? 1 : 0, 1);
        // Both calls fail, each in its own way: two behaviours, but no meaning at all.
        m.setBody(2, m.simple('r', m.binary('l', num(m, 8), num(m, -1))));
        is("two kinds", m.behaviours(), 2);
        is("all without meaning", m.undefinedOrders(), 16);
        is("share of none", Float.compare(m.definedShare(), 0f), 0);
    }

    private static void samePlaceOrNot() {
        // The places of what has no meaning are no part of a behaviour.
        Sequencepoint j = judge();
        j.addFunction(2, -1, -1);
        j.addFunction(2, -1, -1);
        j.setBody(1, j.simple('r', j.binary('/', num(j, 8), num(j, 0))));
        j.setBody(2, j.simple('r', j.binary('%', num(j, 8), num(j, 0))));
        j.setBody(0, print(j, j.binary('+', j.call(1, -1, -1), j.call(2, -1, -1))));
        is("one behaviour", j.behaviours(), 1);
        j.run(0);
        int first = j.placeOf();
        j.run(1);
        is("at two places", first == j.placeOf() ? 1 : 0, 0);
    }

    private static void folds(String what, Sequencepoint j, int statement, int steps, int size) {
        j.setBody(0, statement);
        is("size of " + what, j.optimisedSize(), size);
        is("steps of " + what, j.optimised(), steps);
        is("size again of " + what, j.optimisedSize(), size);
    }

    private static void optimised() {
        Sequencepoint j = new Sequencepoint();
        refuses("no function", STATE, j::optimised);
        refuses("no function for the size", STATE, j::optimisedSize);
        refuses("no function for isAsIf", STATE, j::isAsIf);
        j.addFunction(2, -1, -1);
        refuses("no body", STATE, j::optimised);
        refuses("no body for the size", STATE, j::optimisedSize);
        refuses("no body for isAsIf", STATE, j::isAsIf);
        int x = j.addVariable(2, 0, true);
        int array = j.addVariable(2, 2, true);
        for (char kind : "+-*/%&|^lr<=".toCharArray()) {
            folds("" + kind, j, print(j, j.binary(kind, num(j, 3), num(j, 2))), 1, 2);
        }
        folds("no meaning", j, print(j, j.binary('/', num(j, 3), num(j, 0))), 0, 4);
        folds("unary", j, print(j, j.unary('-', j.unary('~', j.unary('!', num(j, 3))))), 3, 2);
        folds("- without meaning", j, print(j, j.unary('-', num(j, -32768))), 0, 3);
        folds("cast", j, print(j, j.cast(1, num(j, 300))), 1, 2);
        folds("one told of two", j, print(j, j.binary('+', num(j, 3), j.name(x))), 0, 4);
        folds("places", j, j.simple('e', j.assign('s', j.unary('*', j.binary(',', num(j, 3), j.name(array))), num(j, 1))), 1, 5);
        folds("a call", j, print(j, j.call(0, -1, -1)), 0, 2);
        folds("pointers", j, print(j, j.binary('=', j.name(array), j.name(array))), 0, 4);
    }

    private static void optimisedDecisions() {
        Sequencepoint j = judge();
        int x = j.addVariable(2, 0, true);
        int p = j.addVariable(12, 0, true);
        folds("a decided", j, print(j, j.binary('a', num(j, 0), j.name(x))), 1, 2);
        folds("a not decided", j, print(j, j.binary('a', num(j, 1), num(j, 0))), 0, 4);
        folds("o decided", j, print(j, j.binary('o', num(j, -1), j.name(x))), 1, 2);
        folds("o not decided", j, print(j, j.binary('o', num(j, 0), num(j, 1))), 0, 4);
        folds("parts first", j, print(j, j.binary('a', num(j, 0), j.unary('!', num(j, 1)))), 2, 2);
        folds(",", j, print(j, j.binary(',', num(j, 0), j.name(x))), 1, 2);
        folds(", of a name", j, print(j, j.binary(',', j.name(x), num(j, 0))), 0, 4);
        folds("choice of a name", j, print(j, j.choose(num(j, 1), j.name(x), num(j, 0))), 1, 3);
        folds("choice of a number", j, print(j, j.choose(num(j, 0), j.name(x), num(j, 0))), 2, 2);
        folds("choice of pointers", j, j.simple('e', j.choose(num(j, 0), j.name(p), j.name(p))), 1, 2);
        folds("choice not told", j, print(j, j.choose(j.name(x), num(j, 1), num(j, 0))), 0, 5);
        j.setBody(0, print(j, j.binary('o', num(j, 5), j.name(x))));
        is("o gives 1", j.runOptimised(0) == 'n' ? j.printedAt(0) : 0, '1');
        j.setBody(0, print(j, j.binary('a', num(j, 0), j.name(x))));
        is("a gives 0", j.runOptimised(0) == 'n' ? j.printedAt(0) : 0, '0');
        j.setBody(0, print(j, j.choose(num(j, 1), num(j, -1), j.number(1, 5))));
        j.runOptimised(0);
        is("a choice converts", text(j), ":4294967295 ");
    }

    private static void optimisedStatements() {
        Sequencepoint j = judge();
        int x = j.addVariable(2, 0, true);
        folds("e of a number", j, j.simple('e', num(j, 1)), 1, 0);
        folds("e of a name", j, j.simple('e', j.name(x)), 0, 2);
        folds("p of a number", j, print(j, num(j, 1)), 0, 2);
        folds("r of a number", j, j.simple('r', num(j, 1)), 0, 2);
        folds("i with 0", j, j.branch(num(j, 0), print(j, j.name(x)), -1), 1, 0);
        folds("i with 0 and another one", j, j.branch(num(j, 0), print(j, j.name(x)), j.simple('r', num(j, 0))), 1, 2);
        folds("i with 1", j, j.branch(num(j, 1), print(j, j.name(x)), j.simple('r', num(j, 0))), 1, 2);
        folds("i of nothing", j, j.branch(num(j, 1), j.simple('e', num(j, 2)), j.simple('r', num(j, 0))), 2, 0);
        folds("i not told, of nothing", j, j.branch(j.name(x), j.simple('e', num(j, 2)), -1), 1, 2);
        folds("i not told", j, j.branch(j.name(x), print(j, num(j, 2)), j.simple('r', num(j, 0))), 0, 6);
        folds("w with 0", j, j.repeat(num(j, 0), print(j, j.name(x))), 1, 0);
        folds("w with 1", j, j.repeat(num(j, 1), print(j, j.name(x))), 0, 4);
        folds("w not told, of nothing", j, j.repeat(j.name(x), j.simple('e', num(j, 2))), 1, 2);
        folds("s with nothing first", j, j.then(j.simple('e', num(j, 2)), print(j, num(j, 1))), 2, 2);
        folds("s with nothing second", j, j.then(print(j, num(j, 1)), j.simple('e', num(j, 2))), 2, 2);
        folds("s of nothing", j, j.then(j.simple('e', num(j, 1)), j.simple('e', num(j, 2))), 3, 0);
        folds("b of nothing", j, j.block(j.simple('e', num(j, 1))), 2, 0);
        folds("b of something", j, j.block(print(j, num(j, 1))), 0, 3);
        int other = j.addFunction(2, -1, -1);
        j.setBody(other, j.simple('r', j.unary('-', num(j, 1))));
        folds("all functions", j, print(j, num(j, 1)), 1, 4);
    }

    private static void emptiedRuns() {
        Sequencepoint j = judge();
        int x = j.addVariable(2, 0, true);
        j.setBody(0, all(j, put(j, x, num(j, 1)), j.branch(j.name(x), j.simple('e', num(j, 2)), print(j, num(j, 5))),
                j.repeat(j.unary('D', j.name(x)), j.simple('e', num(j, 2))), print(j, j.name(x))));
        is("run", again(j, 0), "n:-1 ");
        is("steps", j.steps(), 3 + 3 + 4 + 5 + 2);
        is("optimised", j.runOptimised(0), 'n');
        is("printed", text(j), ":-1 ");
        is("without steps for nothing", j.steps(), 3 + 3 + 2 + 1 + 2 + 2);
        is("as if", j.isAsIf() ? 1 : 0, 1);
    }

    private static void isAsIf() {
        Sequencepoint j = withCalls();
        // Fewer steps let the optimised program come to its end where the program comes to its limit.
        int x = j.addVariable(1, 0, true);
        int body = print(j, j.binary('+', num(j, 1), j.binary('+', num(j, 1), num(j, 1))));
        j.setBody(0, j.then(put(j, x, num(j, 45)), j.repeat(j.unary('D', j.name(x)), body)));
        is("the limit", j.run(0), 'l');
        is("no limit", j.runOptimised(0), 'n');
        is("not as if", j.isAsIf() ? 1 : 0, 0);
        is("share with l", Float.compare(j.definedShare(), 1f), 0);
        j.setBody(0, print(j, j.binary('+', num(j, 1), num(j, 2))));
        is("as if", j.isAsIf() ? 1 : 0, 1);
        int calls = j.binary('+', calling(j, 1, 1), calling(j, 1, 2));
        j.setBody(0, j.simple('e', j.binary('+', calls, j.unary('-', num(j, 1)))));
        is("with orders", j.isAsIf() ? 1 : 0, 1);
        j.setBody(0, print(j, j.binary(',', j.binary('/', num(j, 1), num(j, 0)), num(j, 1))));
        is("without a meaning", j.isAsIf() ? 1 : 0, 1);
    }

    private static void nothingChanges() {
        Sequencepoint j = judge();
        int x = j.addVariable(2, 0, true);
        int a = num(j, 1);
        refuses("binary", UNSUPPORTED, () -> j.binary('+', a, a));
        refuses("assign", UNSUPPORTED, () -> j.assign('s', a, j.name(x)));
        is("the part is free still", j.unary('-', a), 2);
        int s = print(j, 2);
        refuses("then", UNSUPPORTED, () -> j.then(s, s));
        refuses("branch", INDEX, () -> j.branch(1, s, 5));
        is("the statement is free still", j.block(s), 1);
        is("body", j.setBody(0, 1), 1);
        refuses("run", ARGUMENT, () -> j.run(-5));
        is("no steps", j.allSteps(), 0);
    }

    public static void main(String[] args) {
        about("1", PromiseTest::newObject);
        about("2", PromiseTest::addVariable);
        about("3", PromiseTest::addFunction);
        about("4", PromiseTest::setBody);
        about("5", PromiseTest::number);
        about("6", PromiseTest::name);
        about("7", PromiseTest::unary, PromiseTest::unaryValues, PromiseTest::changingPlaces);
        about("8", PromiseTest::cast);
        about("9", PromiseTest::binary, PromiseTest::binaryValues, PromiseTest::decidedParts);
        about("10", PromiseTest::choose);
        about("11", PromiseTest::assign, PromiseTest::assignLimits);
        about("12", PromiseTest::call);
        about("13", PromiseTest::typeOf);
        about("14", PromiseTest::simple, PromiseTest::simpleRuns);
        about("15", PromiseTest::declare);
        about("16", PromiseTest::branch);
        about("17", PromiseTest::repeat);
        about("18", PromiseTest::then);
        about("19", PromiseTest::block);
        about("20", PromiseTest::run, PromiseTest::orders, PromiseTest::moreOrders, PromiseTest::manyChoices,
                PromiseTest::laterChoice, PromiseTest::limits, PromiseTest::deepest);
        about("21", PromiseTest::runOptimised, PromiseTest::emptiedRuns);
        about("22 and 23", PromiseTest::kindOfAndPlaceOf, PromiseTest::kindU, PromiseTest::moreOfKindU,
                PromiseTest::kindI, PromiseTest::kindD, PromiseTest::kindsBAndP);
        about("24 to 27 and 34", PromiseTest::countsOfRuns, PromiseTest::manyRuns);
        about("28, 29 and 33", PromiseTest::behaviours, PromiseTest::samePlaceOrNot);
        about("30 and 31", PromiseTest::optimised, PromiseTest::optimisedDecisions, PromiseTest::optimisedStatements);
        about("32", PromiseTest::isAsIf);
        about("exceptions", PromiseTest::nothingChanges);
        finish("PromiseTest");
    }
}
