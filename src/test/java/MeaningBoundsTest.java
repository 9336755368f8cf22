/** Objects, pointers and lives at their bounds, and each kind of what has no meaning, with the node that finds it. */
public final class MeaningBoundsTest extends Checks {
    private static final String UNSEQUENCED = "+-*/%&|^lr<=";

    private static int at(Sequencepoint j, int array, int index) {
        return j.unary('*', j.binary('+', j.name(array), num(j, index)));
    }

    private static int putAt(Sequencepoint j, int array, int index, int value) {
        return j.simple('e', j.assign('s', at(j, array, index), num(j, value)));
    }

    private static int just(Sequencepoint j, int node) {
        return j.simple('e', node);
    }

    // Objects

    private static void notDetermined() {
        for (boolean isGlobal : new boolean[] {true, false}) {
            for (int length = 0; length <= 8; length++) {
                for (int part = 0; part < Math.max(1, length); part++) {
                    Sequencepoint j = judge();
                    int v = j.addVariable(2, length, isGlobal);
                    int read = length == 0 ? j.name(v) : at(j, v, part);
                    int birth = isGlobal ? just(j, num(j, 0)) : j.declare(v);
                    is("part " + part + " of " + length, told(j, 0, birth, print(j, read)), "xi" + read);
                }
            }
        }
        for (int type = 10; type <= 15; type++) {
            Sequencepoint j = judge();
            int p = j.addVariable(type, 0, true);
            int read = j.name(p);
            is("a pointer", told(j, 0, just(j, read)), "xi" + read);
        }
    }

    private static void asManyPartsAsTheLength() {
        for (int length = 1; length <= 8; length++) {
            Sequencepoint j = judge();
            int v = j.addVariable(2, length, true);
            int last = length - 1;
            is("the last part of " + length, told(j, 0, putAt(j, v, last, 7), print(j, at(j, v, last))), "n:7 ");
            is("the first part of " + length, told(j, 0, putAt(j, v, 0, 8), print(j, j.unary('*', j.name(v)))), "n:8 ");
            int behind = at(j, v, length);
            is("read behind " + length, told(j, 0, print(j, behind)), "xb" + behind);
            int put = j.assign('s', at(j, v, length), num(j, 1));
            is("written behind " + length, told(j, 0, just(j, put)), "xb" + put);
            for (char kind : "idID".toCharArray()) {
                int bump = j.unary(kind, at(j, v, length));
                is(kind + " behind " + length, told(j, 0, just(j, bump)), "xb" + bump);
            }
            int add = j.assign('p', at(j, v, length), num(j, 1));
            is("p behind " + length, told(j, 0, just(j, add)), "xb" + add);
            is("& behind " + length, told(j, 0, just(j, j.unary('&', at(j, v, length)))), "n");
            int beyond = j.binary('+', j.name(v), num(j, length + 1));
            is("moved beyond " + length, told(j, 0, just(j, beyond)), "xb" + beyond);
            int before = j.binary('-', j.name(v), num(j, 1));
            is("moved before " + length, told(j, 0, just(j, before)), "xb" + before);
        }
    }

    private static void aSingleOneHasOnePart() {
        Sequencepoint j = judge();
        int x = j.addVariable(2, 0, true);
        is("the place behind", told(j, 0, just(j, j.binary('+', j.unary('&', j.name(x)), num(j, 1)))), "n");
        is("and back", told(j, 0, put(j, x, num(j, 4)), print(j, j.unary('*',
                j.binary('-', j.binary('+', j.unary('&', j.name(x)), num(j, 1)), num(j, 1))))), "n:4 ");
        int beyond = j.binary('+', j.unary('&', j.name(x)), num(j, 2));
        is("beyond", told(j, 0, just(j, beyond)), "xb" + beyond);
        int before = j.binary('+', j.unary('&', j.name(x)), num(j, -1));
        is("before", told(j, 0, just(j, before)), "xb" + before);
        int read = j.unary('*', j.binary('+', j.unary('&', j.name(x)), num(j, 1)));
        is("read", told(j, 0, just(j, read)), "xb" + read);
    }

    /** Movements by each kind that moves, from the first part of three and from behind the last one. */
    private static void movements() {
        int[] bys = {0, 1, 2, 3, 4, -1, -2, -3, -4, 32767, -32768};
        for (int from : new int[] {0, 1, 3}) {
            for (int by : bys) {
                for (char kind : "+-p".toCharArray()) {
                    Sequencepoint j = judge();
                    int v = j.addVariable(2, 3, true);
                    int p = j.addVariable(12, 0, true);
                    int set = put(j, p, j.binary('+', j.name(v), num(j, from)));
                    int node = kind == 'p' ? j.assign('p', j.name(p), num(j, by)) : j.binary(kind, j.name(p),
                            num(j, by));
                    int to = kind == '-' ? from - by : from + by;
                    boolean isFine = to >= 0 && to <= 3;
                    int where = isFine ? j.binary('=', node, j.binary('+', j.name(v), num(j, to))) : node;
                    is(kind + " by " + by + " from " + from, told(j, 0, set, isFine ? print(j, where) : just(j, node)),
                            isFine ? "n:1 " : "xb" + node);
                }
            }
            steps(from);
        }
        Sequencepoint j = judge();
        int v = j.addVariable(2, 3, true);
        for (char kind : "+-".toCharArray()) {
            int far = j.binary(kind, j.name(v), j.cast(5, j.number(-1, 4)));
            is(kind + " by 4294967295", told(j, 0, just(j, far)), "xb" + far);
            int low = j.binary(kind, j.name(v), j.number(Integer.MIN_VALUE, 4));
            is(kind + " by the lowest", told(j, 0, just(j, low)), "xb" + low);
        }
    }

    private static void steps(int from) {
        for (char kind : "idID".toCharArray()) {
            Sequencepoint j = judge();
            int v = j.addVariable(2, 3, true);
            int p = j.addVariable(12, 0, true);
            int set = put(j, p, j.binary('+', j.name(v), num(j, from)));
            int to = kind == 'i' || kind == 'I' ? from + 1 : from - 1;
            boolean isFine = to >= 0 && to <= 3;
            int node = j.unary(kind, j.name(p));
            int gives = kind == 'i' || kind == 'd' ? to : from;
            if (isFine) {
                int same = j.binary('=', node, j.binary('+', j.name(v), num(j, gives)));
                int after = j.binary('=', j.name(p), j.binary('+', j.name(v), num(j, to)));
                is(kind + " from " + from, told(j, 0, set, print(j, same), print(j, after)), "n:1 1 ");
            } else {
                is(kind + " from " + from, told(j, 0, set, just(j, node)), "xb" + node);
            }
        }
    }

    private static void comparedPointers() {
        for (int a = 0; a <= 3; a++) {
            for (int b = 0; b <= 3; b++) {
                Sequencepoint j = judge();
                int v = j.addVariable(2, 3, true);
                int w = j.addVariable(2, 3, true);
                int less = j.binary('<', j.binary('+', j.name(v), num(j, a)), j.binary('+', j.name(v), num(j, b)));
                int same = j.binary('=', j.binary('+', j.name(v), num(j, a)), j.binary('+', j.name(v), num(j, b)));
                is(a + " and " + b, told(j, 0, print(j, less), print(j, same)),
                        "n:" + (a < b ? 1 : 0) + " " + (a == b ? 1 : 0) + " ");
                int other = j.binary('=', j.binary('+', j.name(v), num(j, a)), j.binary('+', j.name(w), num(j, b)));
                is("of another one " + a + " and " + b, told(j, 0, print(j, other)), "n:0 ");
                int unlike = j.binary('<', j.binary('+', j.name(v), num(j, a)), j.binary('+', j.name(w), num(j, b)));
                is("< of another one " + a + " and " + b, told(j, 0, print(j, unlike)), "xp" + unlike);
                int back = j.binary('<', j.binary('+', j.name(w), num(j, b)), j.binary('+', j.name(v), num(j, a)));
                is("< to another one " + a + " and " + b, told(j, 0, print(j, back)), "xp" + back);
            }
        }
    }

    private static void nothingIsReadBelowAmpersand() {
        Sequencepoint j = judge();
        int x = j.addVariable(2, 0, true);
        int v = j.addVariable(2, 2, true);
        is("& of what is not determined", told(j, 0, print(j, j.binary('=', j.unary('&', j.name(x)),
                j.unary('&', j.name(x))))), "n:1 ");
        is("& of what a pointer points to", told(j, 0, print(j,
                j.binary('=', j.unary('&', j.unary('*', j.name(v))), j.name(v)))),
                "n:1 ");
        is("its steps", j.steps(), 1 + 1 + 2 + 1);
        is("no read for u", told(j, 0, print(j, j.binary('=', j.unary('&', j.name(x)),
                j.binary(',', j.assign('s', j.name(x), num(j, 1)), j.unary('&', j.name(x)))))), "n:1 ");
        is("a name of an array is a pointer to its first part", told(j, 0, putAt(j, v, 0, 6), putAt(j, v, 1, 7),
                print(j, j.unary('*', j.name(v)))), "n:6 ");
    }

    // Lives

    private static void livesOfVariables() {
        Sequencepoint j = judge();
        int x = j.addVariable(2, 0, false);
        int p = j.addVariable(12, 0, true);
        int never = j.name(x);
        is("never alive", told(j, 0, print(j, never)), "xd" + never);
        int late = j.name(x);
        is("not yet alive", told(j, 0, print(j, late), j.declare(x)), "xd" + late);
        int twice = j.name(x);
        is("a second life is not determined", told(j, 0, j.declare(x), put(j, x, num(j, 1)), j.declare(x),
                print(j, twice)), "xi" + twice);
        int old = j.unary('*', j.name(p));
        is("the first one has ended", told(j, 0, j.declare(x), put(j, p, j.unary('&', j.name(x))), j.declare(x),
                put(j, x, num(j, 2)), print(j, old)), "xd" + old);
        int unlike = j.binary('<', j.name(p), j.unary('&', j.name(x)));
        is("they are two objects", told(j, 0, j.declare(x), put(j, p, j.unary('&', j.name(x))), j.declare(x),
                just(j, unlike)),
                "xp" + unlike);
        is("and unlike", told(j, 0, j.declare(x), put(j, p, j.unary('&', j.name(x))), j.declare(x),
                print(j, j.binary('=', j.name(p), j.unary('&', j.name(x))))), "n:0 ");
        int gone = j.name(x);
        is("a block ends it", told(j, 0, j.block(j.declare(x)), just(j, gone)), "xd" + gone);
        int replaced = j.name(x);
        is("and the one that it has replaced", told(j, 0, j.declare(x), put(j, x, num(j, 1)), j.block(j.declare(x)),
                just(j, replaced)),
                "xd" + replaced);
    }

    private static void livesOfBlocks() {
        Sequencepoint j = judge();
        int x = j.addVariable(2, 0, false);
        int y = j.addVariable(2, 0, false);
        is("one from ahead of it stays", told(j, 0, j.declare(x), put(j, x, num(j, 3)), j.block(j.declare(y)),
                print(j, j.name(x))), "n:3 ");
        int inner = j.block(all(j, j.declare(y), put(j, y, num(j, 5)), j.block(j.declare(x)), print(j, j.name(y))));
        is("an inner block ends only its own ones", told(j, 0, inner), "n:5 ");
        int both = j.name(y);
        is("an outer block ends all", told(j, 0, j.block(all(j, j.block(j.declare(x)), j.declare(y),
                put(j, y, num(j, 5)))), print(j, both)),
                "xd" + both);
        int n = j.addVariable(2, 0, true);
        int turn = j.block(all(j, j.declare(x), put(j, x, j.name(n)), print(j, j.name(x))));
        is("each turn has its own", told(j, 0, put(j, n, num(j, 3)), j.repeat(j.unary('D', j.name(n)), turn)),
                "n:2 1 0 ");
        int after = j.name(x);
        int open = j.repeat(j.unary('D', j.name(n)), j.declare(x));
        is("a turn without a block ends none", told(j, 0, put(j, n, num(j, 2)), open, print(j, after)), "xi" + after);
    }

    private static void livesOfCalls() {
        Sequencepoint j = judge();
        int n = j.addVariable(2, 0, false);
        int x = j.addVariable(2, 0, false);
        int p = j.addVariable(12, 0, true);
        int f = j.addFunction(2, n, -1);
        // f(n): x = n; if (n) f(n - 1); gives x: each call has its own x.
        int again = j.branch(j.name(n), just(j, j.call(f, j.binary('-', j.name(n), num(j, 1)), -1)), -1);
        j.setBody(f, all(j, j.declare(x), put(j, x, j.name(n)), again, print(j, j.name(x)), j.simple('r', j.name(x))));
        is("each call has lives of its own", told(j, 0, print(j, j.call(f, num(j, 3), -1))), "n:0 1 2 3 3 ");
        int outer = j.name(x);
        is("they end with the call", told(j, 0, just(j, j.call(f, num(j, 0), -1)), print(j, outer)),
                "xd" + outer + ":0 ");
        int other = j.name(n);
        is("and a parameter too", told(j, 0, just(j, j.call(f, num(j, 0), -1)), print(j, other)), "xd" + other + ":0 ");
        int g = j.addFunction(2, n, -1);
        int mine = j.name(x);
        j.setBody(g, j.simple('r', mine));
        is("those of the caller are none of the call", told(j, 0, j.declare(x), put(j, x, num(j, 1)),
                print(j, j.call(g, num(j, 1), -1))),
                "xd" + mine);
        j.setBody(g, all(j, put(j, p, j.unary('&', j.name(n))),
                just(j, j.assign('s', j.unary('*', j.name(p)), num(j, 9))), j.simple('r', j.name(n))));
        is("a pointer to a parameter", told(j, 0, print(j, j.call(g, num(j, 1), -1))), "n:9 ");
        int dead = j.unary('*', j.name(p));
        is("ends with the call", told(j, 0, just(j, j.call(g, num(j, 1), -1)), print(j, dead)), "xd" + dead);
        j.setBody(g, all(j, j.declare(n), j.simple('r', j.assign('s', j.name(n), num(j, 4)))));
        is("a parameter may come to life anew", told(j, 0, print(j, j.call(g, num(j, 1), -1))), "n:4 ");
    }

    /** As many lives and parts as 300 steps can bring: the last ones are as good as the first ones. */
    private static void manyLives() {
        Sequencepoint j = judge();
        int x = j.addVariable(2, 0, true);
        int v = j.addVariable(0, 8, false);
        for (int k = 2; k < 10; k++) {
            j.addVariable(0, 8, true);
        }
        int loop = j.repeat(j.unary('D', j.name(x)), j.declare(v));
        int last = print(j, j.assign('s', at(j, v, 7), num(j, 5)));
        j.setBody(0, all(j, put(j, x, num(j, 143)), loop, last));
        is("arrays", again(j, 0), "n:5 ");
        is("steps", j.steps(), 2 + 3 + 1 + 144 + 143 + 6);
        Sequencepoint m = judge();
        int turns = m.addVariable(2, 0, true);
        int array = m.addVariable(0, 8, false);
        int one = m.addVariable(2, 0, false);
        int two = m.addVariable(2, 0, false);
        int f = m.addFunction(2, one, two);
        m.setBody(f, m.simple('r', m.unary('D', m.name(turns))));
        int wheel = m.repeat(m.call(f, num(m, 1), num(m, 1)), m.declare(array));
        m.setBody(0, all(m, put(m, turns, num(m, 45)), wheel, putAt(m, array, 7, 6), print(m, at(m, array, 7))));
        is("arrays and parameters", again(m, 0), "n:6 ");
        is("steps", m.steps(), 3 + 3 + 1 + 46 * 5 + 45 + 6 + 5);
    }

    private static void tenVariables() {
        // Each variable has its own place, whether it is global or not.
        for (int mask = 0; mask < 1024; mask += 11) {
            Sequencepoint j = judge();
            for (int k = 0; k < 10; k++) {
                j.addVariable(2, 0, (mask >> k & 1) != 0);
            }
            int life = -1;
            int shown = -1;
            for (int k = 9; k >= 0; k--) {
                boolean isGlobal = (mask >> k & 1) != 0;
                int set = put(j, k, num(j, k));
                int birth = isGlobal ? set : j.then(j.declare(k), set);
                life = life < 0 ? birth : j.then(birth, life);
                int show = print(j, j.name(k));
                shown = shown < 0 ? show : j.then(show, shown);
            }
            is("variables by " + mask, told(j, 0, life, shown), "n:0 1 2 3 4 5 6 7 8 9 ");
        }
    }

    // What finds that a place is wrong

    private static void placesThatDoNotLive() {
        Sequencepoint j = judge();
        int x = j.addVariable(2, 0, false);
        int v = j.addVariable(2, 2, false);
        int p = j.addVariable(12, 0, false);
        for (char kind : "&idID".toCharArray()) {
            int node = j.unary(kind, j.name(x));
            is(kind + " finds it", told(j, 0, just(j, node)), "xd" + node);
        }
        for (char kind : "sp".toCharArray()) {
            int node = j.assign(kind, j.name(x), num(j, 1));
            is(kind + " finds it", told(j, 0, just(j, node)), "xd" + node);
            is("behind its parts", j.steps(), 1 + 2);
            int part = j.binary('/', num(j, 1), num(j, 0));
            is("a part comes ahead of it", told(j, 0, just(j, j.assign(kind, j.name(x), part))), "xz" + part);
            int of = j.assign(kind, j.name(p), kind == 's' ? j.unary('&',
                    j.unary('*', j.binary('+', j.name(v), num(j, 1)))) : num(j, 1));
            is(kind + " of a pointer finds it", told(j, 0, j.declare(v), just(j, of)), "xd" + of);
        }
        for (char kind : "idID".toCharArray()) {
            int node = j.unary(kind, j.name(p));
            is(kind + " of a pointer finds it", told(j, 0, just(j, node)), "xd" + node);
        }
        int read = j.name(x);
        is("a name finds it", told(j, 0, just(j, j.unary('-', read))), "xd" + read);
        int array = j.name(v);
        is("a name of an array finds it", told(j, 0, just(j, j.unary('&', j.unary('*', array)))), "xd" + array);
    }

    private static void placesThatAreNotDetermined() {
        Sequencepoint j = judge();
        int x = j.addVariable(2, 0, true);
        int p = j.addVariable(12, 0, true);
        int v = j.addVariable(2, 2, true);
        for (char kind : "idID".toCharArray()) {
            int node = j.unary(kind, j.name(x));
            is(kind + " of a number", told(j, 0, just(j, node)), "xi" + node);
            int pointer = j.unary(kind, j.name(p));
            is(kind + " of a pointer", told(j, 0, just(j, pointer)), "xi" + pointer);
            int part = j.unary(kind, at(j, v, 1));
            is(kind + " of a part", told(j, 0, putAt(j, v, 0, 1), just(j, part)), "xi" + part);
        }
        int add = j.assign('p', j.name(x), num(j, 1));
        is("p", told(j, 0, just(j, add)), "xi" + add);
        int move = j.assign('p', j.name(p), num(j, 1));
        is("p of a pointer", told(j, 0, just(j, move)), "xi" + move);
        is("s reads nothing", told(j, 0, print(j, j.assign('s', j.name(x), num(j, 1)))), "n:1 ");
        int pointed = j.name(p);
        is("the pointer to a place", told(j, 0, just(j, j.assign('s', j.unary('*', pointed), num(j, 1)))),
                "xi" + pointed);
    }

    /** Dead pointers in all their uses: each is 'd', and ahead of 'b'. */
    private static void deadPointers() {
        String[] uses = {"*", "s", "p", "i", "D", "+", "-", "+0", "+9", "I pointer", "d pointer", "p pointer", "p 9"};
        for (String use : uses) {
            Sequencepoint j = judge();
            int x = j.addVariable(2, 3, false);
            int p = j.addVariable(12, 0, true);
            int node = useOf(j, use, p);
            int life = j.block(all(j, j.declare(x), put(j, p, j.name(x))));
            is(use, told(j, 0, life, just(j, node)), "xd" + node);
        }
        Sequencepoint j = judge();
        int x = j.addVariable(2, 3, false);
        int p = j.addVariable(12, 0, true);
        int behind = j.unary('*', j.name(p));
        int end = j.block(all(j, j.declare(x), put(j, p, j.binary('+', j.name(x), num(j, 3)))));
        is("read behind one that does not live", told(j, 0, end, just(j, behind)), "xd" + behind);
        int put = j.assign('s', j.unary('*', j.name(p)), num(j, 1));
        int again = j.block(all(j, j.declare(x), put(j, p, j.binary('+', j.name(x), num(j, 3)))));
        is("written behind one that does not live", told(j, 0, again, just(j, put)), "xd" + put);
        int life = j.block(all(j, j.declare(x), put(j, p, j.name(x))));
        is("it may be given, compared and be a condition", told(j, 0, life, put(j, p, j.name(p)),
                print(j, j.binary('=', j.name(p), j.name(p))), print(j, j.binary('<', j.name(p), j.name(p))),
                print(j, j.unary('!', j.name(p))), just(j, j.unary('&', j.unary('*', j.name(p))))), "n:1 0 0 ");
    }

    private static int useOf(Sequencepoint j, String use, int p) {
        switch (use) {
            case "*": return j.unary('*', j.name(p));
            case "s": return j.assign('s', j.unary('*', j.name(p)), num(j, 1));
            case "p": return j.assign('p', j.unary('*', j.name(p)), num(j, 1));
            case "i": return j.unary('i', j.unary('*', j.name(p)));
            case "D": return j.unary('D', j.unary('*', j.name(p)));
            case "+": return j.binary('+', j.name(p), num(j, 1));
            case "-": return j.binary('-', j.name(p), num(j, 1));
            case "+0": return j.binary('+', j.name(p), num(j, 0));
            case "+9": return j.binary('+', j.name(p), num(j, 9));
            case "I pointer": return j.unary('I', j.name(p));
            case "d pointer": return j.unary('d', j.name(p));
            case "p pointer": return j.assign('p', j.name(p), num(j, 1));
            default: return j.assign('p', j.name(p), num(j, 9));
        }
    }

    // 'u'

    private static int writes(Sequencepoint j, int x) {
        return j.assign('s', j.name(x), num(j, 1));
    }

    /** Each two of a read, two ways to write, and nothing, as unsequenced parts. */
    private static void unsequenced() {
        String[] acts = {"r", "w", "i", "p", "n"};
        for (String one : acts) {
            for (String two : acts) {
                boolean isWrong = !one.equals("n") && !two.equals("n") && !(one.equals("r") && two.equals("r"));
                for (char kind : UNSEQUENCED.toCharArray()) {
                    Sequencepoint j = judge();
                    int x = j.addVariable(2, 0, true);
                    int node = j.binary(kind, act(j, one, x), act(j, two, x));
                    String got = told(j, 0, put(j, x, num(j, 1)), just(j, node));
                    is(one + " " + kind + " " + two, got, isWrong ? "xu" + node : "n");
                }
                for (char kind : "ao,".toCharArray()) {
                    Sequencepoint j = judge();
                    int x = j.addVariable(2, 0, true);
                    int node = j.binary(kind, act(j, one, x), act(j, two, x));
                    is(one + " " + kind + " " + two, told(j, 0, put(j, x, num(j, 1)), just(j, node)), "n");
                }
                Sequencepoint j = judge();
                int x = j.addVariable(2, 0, true);
                int n = j.addVariable(2, 0, false);
                int m = j.addVariable(2, 0, false);
                int f = j.addFunction(2, n, m);
                j.setBody(f, j.simple('r', num(j, 1)));
                int call = j.call(f, act(j, one, x), act(j, two, x));
                is(one + " and " + two + " of a call", told(j, 0, put(j, x, num(j, 1)), just(j, call)),
                        isWrong ? "xu" + call : "n");
                int choice = j.choose(act(j, one, x), act(j, two, x), num(j, 1));
                is(one + " chooses " + two, told(j, 0, put(j, x, num(j, 1)), just(j, choice)), "n");
            }
        }
    }

    private static int act(Sequencepoint j, String act, int x) {
        switch (act) {
            case "r": return j.name(x);
            case "w": return writes(j, x);
            case "i": return j.unary('I', j.name(x));
            case "p": return j.assign('p', j.name(x), num(j, 1));
            default: return num(j, 1);
        }
    }

    /** The place of 's' and 'p', as a part, and the second part: here the pointer is read, or written, or not. */
    private static void placeAndSecondPart() {
        for (char kind : "sp".toCharArray()) {
            for (int place = 0; place < 3; place++) {
                for (int part = 0; part < 3; part++) {
                    Sequencepoint j = judge();
                    int x = j.addVariable(2, 0, true);
                    int p = j.addVariable(12, 0, true);
                    int to = place == 0 ? j.name(x) : j.unary('*',
                            place == 1 ? j.name(p) : j.assign('s', j.name(p), j.name(p)));
                    int from = part == 0 ? num(j, 1)
                            : j.binary('=', j.name(p), part == 1 ? j.name(p) : j.assign('s', j.name(p),
                                    j.unary('&', j.name(x))));
                    if (part == 2) {
                        from = j.binary(',', j.assign('s', j.name(p), j.unary('&', j.name(x))), num(j, 1));
                    }
                    int node = j.assign(kind, to, from);
                    boolean isWrong = place == 2 && part > 0 || place == 1 && part == 2;
                    is(kind + " of the place " + place + " and the part " + part, told(j, 0, put(j, x, num(j, 1)),
                            put(j, p, j.unary('&', j.name(x))), just(j, node)), isWrong ? "xu" + node : "n");
                }
            }
        }
    }

    private static void thePlaceItself() {
        for (char kind : "sp".toCharArray()) {
            Sequencepoint j = judge();
            int x = j.addVariable(2, 0, true);
            int y = j.addVariable(2, 0, true);
            int p = j.addVariable(12, 0, true);
            int same = j.assign(kind, j.name(x), writes(j, x));
            is(kind + " written by the second part", told(j, 0, put(j, x, num(j, 1)), just(j, same)), "xu" + same);
            is(kind + " another one", told(j, 0, put(j, x, num(j, 1)),
                    just(j, j.assign(kind, j.name(x), writes(j, y)))), "n");
            is(kind + " read by the second part", told(j, 0, put(j, x, num(j, 1)),
                    just(j, j.assign(kind, j.name(x), j.name(x)))), "n");
            int below = j.assign(kind, j.unary('*', j.binary(',', writes(j, x), j.unary('&', j.name(x)))), num(j, 1));
            is(kind + " written by the place", told(j, 0, put(j, x, num(j, 1)), just(j, below)), "xu" + below);
            int by = j.assign(kind, j.unary('*', j.name(p)), writes(j, x));
            is(kind + " by a pointer", told(j, 0, put(j, x, num(j, 1)), put(j, p, j.unary('&', j.name(x))),
                    just(j, by)), "xu" + by);
            int deep = j.assign(kind, j.name(x), j.binary('a', num(j, 0), writes(j, x)));
            is(kind + " not evaluated", told(j, 0, put(j, x, num(j, 1)), just(j, deep)), "n");
        }
        for (char kind : "idID&".toCharArray()) {
            Sequencepoint j = judge();
            int x = j.addVariable(2, 0, true);
            int node = j.unary(kind, j.unary('*', j.binary(',', writes(j, x), j.unary('&', j.name(x)))));
            is(kind + " written by its part", told(j, 0, put(j, x, num(j, 1)), just(j, node)),
                    kind == '&' ? "n" : "xu" + node);
            int read = j.unary(kind, j.unary('*', j.binary(',', j.name(x), j.unary('&', j.name(x)))));
            is(kind + " read by its part", told(j, 0, put(j, x, num(j, 1)), just(j, read)), "n");
        }
    }

    private static void partsOfOneObject() {
        Sequencepoint j = judge();
        int v = j.addVariable(2, 2, true);
        int one = j.binary('+', j.assign('s', at(j, v, 0), num(j, 1)), j.assign('s', at(j, v, 1), num(j, 2)));
        is("unlike parts of one object", told(j, 0, print(j, one)), "n:3 ");
        int same = j.binary('+', j.assign('s', at(j, v, 1), num(j, 1)), j.assign('s', at(j, v, 1), num(j, 2)));
        is("one part", told(j, 0, print(j, same)), "xu" + same);
    }

    private static void whatCallsDo() {
        Sequencepoint j = judge();
        int x = j.addVariable(2, 0, true);
        int n = j.addVariable(2, 0, false);
        int f = j.addFunction(2, n, -1);
        j.setBody(f, j.simple('r', j.unary('i', j.name(x))));
        int start = put(j, x, num(j, 1));
        is("written by both calls", told(j, 0, start, print(j,
                j.binary('+', j.call(f, num(j, 0), -1), j.call(f, num(j, 0), -1)))), "n:5 ");
        is("written by a call, read beside it", told(j, 0, put(j, x, num(j, 1)),
                print(j, j.binary('+', j.call(f, num(j, 0), -1), j.name(x)))),
                "n:4 ");
        is("written by a call, written beside it", told(j, 0, put(j, x, num(j, 1)),
                print(j, j.binary('+', j.call(f, num(j, 0), -1), writes(j, x)))),
                "n:3 ");
        is("the place written by a call", told(j, 0, put(j, x, num(j, 1)),
                just(j, j.assign('p', j.name(x), j.call(f, num(j, 0), -1))),
                print(j, j.name(x))), "n:4 ");
        int part = j.binary('+', j.call(f, writes(j, x), -1), j.name(x));
        is("but the parts of a call count", told(j, 0, print(j, part)), "xu" + part);
        int own = j.assign('s', j.name(x), j.call(f, writes(j, x), -1));
        is("for the place too", told(j, 0, print(j, own)), "xu" + own);
        int around = j.binary('+', j.name(x), j.binary(',', j.call(f, num(j, 0), -1), writes(j, x)));
        is("and what is around a call", told(j, 0, put(j, x, num(j, 1)), print(j, around)), "xu" + around);
        int later = j.binary('+', j.binary(',', j.name(x), j.call(f, num(j, 0), -1)), writes(j, x));
        is("and what is ahead of one", told(j, 0, put(j, x, num(j, 1)), print(j, later)), "xu" + later);
        int inner = j.binary('+', j.unary('I', j.name(n)), j.name(n));
        j.setBody(f, j.simple('r', inner));
        is("within a body it counts", told(j, 0, print(j, j.call(f, num(j, 0), -1))), "xu" + inner);
    }

    /** However much was read and written ahead of it in the run, or in earlier runs. */
    private static void manyActs() {
        Sequencepoint j = judge();
        for (int k = 0; k < 10; k++) {
            j.addVariable(3, 0, true);
        }
        // Each turn adds to nine variables in one another: 18 parts of objects read or written by 11 steps.
        int adds = num(j, 1);
        for (int k = 1; k < 10; k++) {
            adds = j.assign('p', j.name(k), adds);
        }
        int start = num(j, 0);
        for (int k = 1; k < 10; k++) {
            start = j.assign('s', j.name(k), start);
        }
        int bad = j.binary('+', j.unary('I', j.name(1)), j.name(1));
        int fine = j.binary('+', j.unary('I', j.name(1)), j.unary('I', j.name(2)));
        int turns = j.repeat(j.unary('D', j.name(0)), just(j, adds));
        j.setBody(0, all(j, just(j, start), put(j, 0, num(j, 20)), turns, print(j, fine), print(j, bad)));
        for (int k = 0; k < 20; k++) {
            is("run " + k, again(j, k), "xu" + bad + ":230 ");
        }
        is("steps", j.steps(), 4 + 11 + 3 + 1 + 21 + 20 * 11 + 4 + 4);
        is("behaviours", j.behaviours(), 1);
        is("undefinedOrders", j.undefinedOrders(), 16);
    }

    /** 'u' is found behind both parts, by the innermost node whose parts they are. */
    private static void theFirstActEndsTheRun() {
        Sequencepoint j = judge();
        int x = j.addVariable(2, 0, true);
        int zero = j.binary('/', num(j, 1), num(j, 0));
        int both = j.binary('+', j.unary('I', j.name(x)), j.binary(',', j.name(x), zero));
        is("a fault in the second part", told(j, 0, put(j, x, num(j, 1)), just(j, both)), "xz" + zero);
        int first = j.binary('%', num(j, 1), num(j, 0));
        int of = j.assign('s', j.name(x), j.binary(',', j.unary('I', j.name(x)), first));
        is("a fault ahead of the place itself", told(j, 0, put(j, x, num(j, 1)), just(j, of)), "xz" + first);
        int inner = j.binary('*', j.name(x), j.unary('i', j.name(x)));
        int outer = j.binary('-', inner, j.unary('d', j.name(x)));
        is("the innermost one", told(j, 0, put(j, x, num(j, 1)), just(j, outer)), "xu" + inner);
        is("its steps", j.steps(), 1 + 3 + 1 + 1 + 1 + 2);
        int wrong = j.binary('/', num(j, 1), num(j, 0));
        is("nothing behind it", told(j, 0, print(j, num(j, 1)), print(j, wrong), print(j, num(j, 2)),
                print(j, j.binary('%', num(j, 1), num(j, 0)))), "xz" + wrong + ":1 ");
    }

    // If several apply

    private static void sequencedAheadOfAll() {
        Sequencepoint j = judge();
        int x = j.addVariable(2, 0, true);
        int none = j.addVariable(2, 0, false);
        int m = j.addVariable(2, 0, false);
        int f = j.addFunction(2, none, m);
        int i = j.call(f, writes(j, x), j.name(x));
        is("u ahead of i", told(j, 0, put(j, x, num(j, 1)), just(j, i)), "xu" + i);
        int o = j.binary('+', j.assign('s', j.name(x), num(j, 32767)), j.name(x));
        is("u ahead of o", told(j, 0, put(j, x, num(j, 1)), just(j, o)), "xu" + o);
        int z = j.binary('/', j.name(x), j.assign('s', j.name(x), num(j, 0)));
        is("u ahead of z", told(j, 0, put(j, x, num(j, 1)), just(j, z)), "xu" + z);
        int s = j.binary('l', j.name(x), j.assign('s', j.name(x), num(j, -1)));
        is("u ahead of s", told(j, 0, put(j, x, num(j, 1)), just(j, s)), "xu" + s);
        int added = j.assign('p', j.name(x), j.assign('s', j.name(x), num(j, 32767)));
        is("u ahead of o of p", told(j, 0, put(j, x, num(j, 1)), just(j, added)), "xu" + added);
    }

    private static void pointersWithU() {
        Sequencepoint j = judge();
        int v = j.addVariable(2, 2, true);
        int w = j.addVariable(2, 2, true);
        int x = j.addVariable(2, 0, false);
        int p = j.addVariable(12, 0, true);
        int d = j.binary('+', j.name(p), j.binary(',', j.assign('s', j.name(p), j.name(v)), num(j, 1)));
        is("u ahead of d", told(j, 0, j.block(j.then(j.declare(x), put(j, p, j.unary('&', j.name(x))))), just(j, d)),
                "xu" + d);
        int put = j.assign('s', j.unary('*', j.name(p)), j.binary(',', j.assign('s', j.name(p), j.name(v)), num(j, 1)));
        is("u ahead of d of s", told(j, 0, j.block(j.then(j.declare(x), put(j, p, j.unary('&', j.name(x))))),
                just(j, put)), "xu" + put);
        int b = j.binary('+', j.name(p), j.binary(',', j.assign('s', j.name(p), j.name(w)), num(j, 3)));
        is("u ahead of b", told(j, 0, put(j, p, j.name(v)), just(j, b)), "xu" + b);
        int q = j.binary('<', j.name(p), j.assign('s', j.name(p), j.name(w)));
        is("u ahead of p", told(j, 0, put(j, p, j.name(v)), just(j, q)), "xu" + q);
        int zero = j.binary('/', num(j, -32768), num(j, 0));
        is("z of the lowest", told(j, 0, just(j, zero)), "xz" + zero);
    }

    private static void callsWithoutAValue() {
        Sequencepoint j = judge();
        int n = j.addVariable(2, 0, false);
        int f = j.addFunction(2, n, -1);
        int none = j.call(f, num(j, 1), -1);
        is("no body", told(j, 0, just(j, none)), "xi" + none);
        is("its steps", j.steps(), 3);
        j.setBody(f, print(j, j.name(n)));
        int without = j.call(f, num(j, 7), -1);
        is("no return", told(j, 0, just(j, without)), "xi" + without + ":7 ");
        is("its steps", j.steps(), 3 + 2);
        j.setBody(f, j.branch(j.name(n), j.simple('r', num(j, 5)), -1));
        int some = j.call(f, num(j, 0), -1);
        is("a return in some calls", told(j, 0, print(j, j.call(f, num(j, 1), -1)), print(j, some)),
                "xi" + some + ":5 ");
        is("none in the function 0", told(j, 0, print(j, num(j, 1))), "n:1 ");
        is("one in the function 0", told(j, 0, j.simple('r', num(j, 1)), print(j, num(j, 1))), "n");
        j.setBody(f, all(j, j.block(j.repeat(num(j, 1), j.then(j.simple('r', j.name(n)), print(j, num(j, 8))))),
                print(j, num(j, 9))));
        is("out of all statements", told(j, 0, print(j, j.call(f, num(j, 6), -1)), print(j, num(j, 1))), "n:6 1 ");
    }

    public static void main(String[] args) {
        about("An object comes to life with parts whose values are not determined.", MeaningBoundsTest::notDetermined);
        about("It has one part, or as many as the length of its variable.", MeaningBoundsTest::asManyPartsAsTheLength,
                MeaningBoundsTest::aSingleOneHasOnePart);
        about("Before the first part or beyond the place behind the last part.", MeaningBoundsTest::movements);
        about("'<' of pointers that do not point into one object.", MeaningBoundsTest::comparedPointers);
        about("This pointer, and nothing is read.", MeaningBoundsTest::nothingIsReadBelowAmpersand);
        about("In place of an earlier life of it in the same call.", MeaningBoundsTest::livesOfVariables);
        about("Behind which the lives of all variables end that came to life in it.", MeaningBoundsTest::livesOfBlocks);
        about("Global ones live from the beginning; others of a call end with the call.",
                MeaningBoundsTest::livesOfCalls,
                MeaningBoundsTest::manyLives, MeaningBoundsTest::tenVariables);
        about("Which is found by the node that does so.", MeaningBoundsTest::placesThatDoNotLive,
                MeaningBoundsTest::placesThatAreNotDetermined);
        about("Or a pointer to it is moved.", MeaningBoundsTest::deadPointers);
        about("One of them has written what the other one has read or written.", MeaningBoundsTest::unsequenced,
                MeaningBoundsTest::placeAndSecondPart, MeaningBoundsTest::partsOfOneObject,
                        MeaningBoundsTest::manyActs);
        about("A run ends at the first act without a meaning.", MeaningBoundsTest::theFirstActEndsTheRun);
        about("A part has written the place itself.", MeaningBoundsTest::thePlaceItself);
        about("What calls do within their bodies does not count for this.", MeaningBoundsTest::whatCallsDo);
        about("If several apply, 'u' comes first, then the others.", MeaningBoundsTest::sequencedAheadOfAll,
                MeaningBoundsTest::pointersWithU);
        about("A call in a node ends without a return.", MeaningBoundsTest::callsWithoutAValue);
        finish("MeaningBoundsTest");
    }
}
