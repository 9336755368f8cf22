/** Orders, steps, calls, what is printed, and behaviours, at the bounds that the document names. */
public final class RunBoundsTest extends Checks {
    private static final String UNSEQUENCED = "+-*/%&|^lr<=";

    /** Function 1 prints its part and gives it; function 2 takes nothing, and gives the global 0, 1 more each time. */
    private static Sequencepoint withCalls() {
        Sequencepoint j = judge();
        int g = j.addVariable(2, 0, true);
        int n = j.addVariable(2, 0, false);
        j.addFunction(2, n, -1);
        j.addFunction(2, -1, -1);
        j.setBody(1, j.then(print(j, j.name(n)), j.simple('r', j.name(n))));
        j.setBody(2, j.simple('r', j.unary('I', j.name(g))));
        return j;
    }

    private static int says(Sequencepoint j, int value) {
        return j.call(1, num(j, value), -1);
    }

    private static int counts(Sequencepoint j) {
        return j.call(2, -1, -1);
    }

    private static int just(Sequencepoint j, int node) {
        return j.simple('e', node);
    }

    // Orders

    private static void whichPartsAreChosen() {
        for (char kind : UNSEQUENCED.toCharArray()) {
            for (int calls = 0; calls < 4; calls++) {
                Sequencepoint j = withCalls();
                int first = (calls & 1) != 0 ? says(j, 1) : num(j, 1);
                int second = (calls & 2) != 0 ? says(j, 2) : num(j, 2);
                j.setBody(0, just(j, j.binary(kind, first, second)));
                String ahead = (calls & 1) != 0 ? (calls & 2) != 0 ? "n:1 2 " : "n:1 " : (calls & 2) != 0 ? "n:2 " : "n";
                is(kind + " with calls " + calls, again(j, 0), ahead);
                is(kind + " choices", j.choices(), calls == 3 ? 1 : 0);
                is(kind + " the other way", again(j, 1), calls == 3 ? "n:2 1 " : ahead);
                is(kind + " behaviours", j.behaviours(), calls == 3 ? 2 : 1);
            }
        }
        for (char kind : "ao,".toCharArray()) {
            Sequencepoint j = withCalls();
            j.setBody(0, just(j, j.binary(kind, says(j, kind == 'o' ? 0 : 1), says(j, 2))));
            is(kind + " is in order", again(j, Integer.MAX_VALUE), kind == 'o' ? "n:0 2 " : "n:1 2 ");
            is(kind + " has no choice", j.choices(), 0);
        }
        Sequencepoint j = withCalls();
        j.setBody(0, just(j, j.choose(says(j, 1), says(j, 2), says(j, 3))));
        is("a choice is in order", again(j, Integer.MAX_VALUE), "n:1 2 ");
        is("and no choice of orders", j.choices(), 0);
    }

    /** Without a call in both of them, under any order: the fault of the first part ends the run. */
    private static void theFirstPartComesFirst() {
        for (char kind : UNSEQUENCED.toCharArray()) {
            Sequencepoint j = withCalls();
            int first = j.binary('/', num(j, 1), num(j, 0));
            j.setBody(0, just(j, j.binary(kind, first, j.binary('%', num(j, 1), num(j, 0)))));
            is(kind + " without a call", again(j, Integer.MAX_VALUE), "xz" + first);
            int other = j.binary('/', num(j, 1), num(j, 0));
            j.setBody(0, just(j, j.binary(kind, other, says(j, 1))));
            is(kind + " with one call", again(j, Integer.MAX_VALUE), "xz" + other);
        }
        Sequencepoint j = withCalls();
        int p = j.addVariable(12, 0, true);
        int pointer = j.name(p);
        j.setBody(0, just(j, j.assign('s', j.unary('*', pointer), says(j, 1))));
        is("the place", again(j, Integer.MAX_VALUE), "xi" + pointer);
    }

    private static void callsBelowBothParts() {
        Sequencepoint j = withCalls();
        int v = j.addVariable(2, 3, true);
        int deep = j.unary('-', j.binary(',', num(j, 1), j.cast(4, j.binary('+', num(j, 1), says(j, 1)))));
        int behind = j.choose(num(j, 0), num(j, 5), j.binary('a', num(j, 1), says(j, 2)));
        j.setBody(0, just(j, j.binary('*', deep, behind)));
        is("in what they are made of", again(j, 1), "n:2 1 ");
        is("one choice", j.choices(), 1);
        int never = j.binary('+', j.binary('a', num(j, 0), says(j, 1)), j.binary('o', num(j, 1), says(j, 2)));
        j.setBody(0, just(j, never));
        is("that are not evaluated", again(j, 1), "n");
        is("one choice all the same", j.choices(), 1);
        for (char kind : "sp".toCharArray()) {
            int place = j.unary('*', j.binary('+', j.name(v), says(j, 1)));
            int start = just(j, j.assign('s', j.unary('*', j.binary('+', j.name(v), num(j, 1))), num(j, 1)));
            j.setBody(0, j.then(start, just(j, j.assign(kind, place, says(j, 2)))));
            is(kind + " place first", again(j, 0), "n:1 2 ");
            is(kind + " part first", again(j, 1), "n:2 1 ");
        }
    }

    private static void bothPartsOfACall() {
        Sequencepoint j = judge();
        int n = j.addVariable(2, 0, false);
        int m = j.addVariable(2, 0, false);
        int one = j.addFunction(2, n, -1);
        int two = j.addFunction(2, n, m);
        j.setBody(one, j.then(print(j, j.name(n)), j.simple('r', j.name(n))));
        j.setBody(two, j.then(print(j, j.binary('-', j.name(n), j.name(m))), j.simple('r', num(j, 1))));
        j.setBody(0, just(j, j.call(two, j.call(one, num(j, 7), -1), j.call(one, num(j, 4), -1))));
        is("the first one first", again(j, 0), "n:7 4 3 ");
        is("one choice", j.choices(), 1);
        is("the second one first", again(j, 1), "n:4 7 3 ");
        is("behaviours", j.behaviours(), 2);
    }

    /** A sum of differences whose sign tells the order of each choice; the choice k looks at the bit k modulo 30. */
    private static void bitsOfOrders() {
        for (int before : new int[] {0, 1, 2, 15, 28, 29, 30}) {
            Sequencepoint j = withCalls();
            int turns = j.addVariable(2, 0, true);
            int turn = just(j, j.binary('=', counts(j), counts(j)));
            int last = print(j, j.binary('-', counts(j), counts(j)));
            j.setBody(0, all(j, put(j, 0, num(j, 0)), put(j, turns, num(j, before + 1)),
                    j.repeat(j.unary('d', j.name(turns)), turn), last));
            for (int bit = 0; bit < 31; bit++) {
                String due = bit == before % 30 ? "n:1 " : "n:-1 ";
                is("bit " + bit + " behind " + before, again(j, 1 << bit), due);
                is("but for bit " + bit, again(j, Integer.MAX_VALUE ^ 1 << bit), bit == before % 30 ? "n:-1 " : "n:1 ");
            }
            is("choices", j.choices(), before + 1);
            is("order 0", again(j, 0), "n:-1 ");
            is("behaviours", j.behaviours(), before % 30 < 4 ? 2 : 1);
        }
    }

    /** The outer node chooses ahead of the inner ones. */
    private static void choicesInTheirOrder() {
        Sequencepoint j = withCalls();
        int one = j.binary('+', says(j, 1), says(j, 2));
        int two = j.binary('+', says(j, 3), says(j, 4));
        j.setBody(0, just(j, j.binary('+', one, two)));
        for (int order = 0; order < 16; order++) {
            boolean isTurned = (order & 1) != 0;
            boolean isFirst = (order & (isTurned ? 4 : 2)) != 0;
            boolean isSecond = (order & (isTurned ? 2 : 4)) != 0;
            String a = isFirst ? "2 1 " : "1 2 ";
            String b = isSecond ? "4 3 " : "3 4 ";
            is("order " + order, again(j, order), "n:" + (isTurned ? b + a : a + b));
        }
        is("eight behaviours", j.behaviours(), 8);
    }

    // Limits

    /** What comes ahead of the last statement takes exactly so many steps, at least 7. */
    private static void withStepsAhead(Sequencepoint j, int steps, int last) {
        int x = j.addVariable(2, 0, true);
        int life = j.addVariable(2, 0, false);
        int turns = (steps - 7) / 2;
        // Two of 's', three to put the number of turns, one for 'w' and for its last condition, and two a turn.
        int whole = all(j, put(j, x, num(j, turns)), j.repeat(j.unary('D', j.name(x)), j.declare(life)), last);
        j.setBody(0, (steps - 7) % 2 == 0 ? whole : j.block(whole));
    }

    private static void stepLimit() {
        for (int steps = 20; steps < 310; steps += steps < 290 ? 30 : 1) {
            Sequencepoint j = judge();
            withStepsAhead(j, steps - 2, print(j, num(j, 5)));
            int most = Math.min(steps, 300);
            is("the end of " + steps, again(j, 0), steps <= 300 ? "n:5 " : "l");
            is("steps of " + steps, j.steps(), most);
            is("undefinedOrders", j.undefinedOrders(), 0);
            is("definedShare", Float.compare(j.definedShare(), 1f), 0);
            is("behaviours", j.behaviours(), 1);
            is("optimised", j.runOptimised(0), steps <= 300 ? 'n' : 'l');
            is("isAsIf", j.isAsIf() ? 1 : 0, 1);
            is("allSteps", j.allSteps(), 2L * most);
        }
    }

    /** Statements of 1 to 5 steps. */
    private static int last(Sequencepoint j, int which) {
        switch (which) {
            case 0: return j.declare(1);
            case 1: return just(j, num(j, 1));
            case 2: return j.block(just(j, num(j, 1)));
            case 3: return just(j, j.binary('/', num(j, 1), num(j, 0)));
            case 4: return just(j, j.call(1, -1, -1));
            case 5: return j.branch(num(j, 0), just(j, num(j, 1)), print(j, num(j, 1)));
            default: return just(j, j.binary('+', num(j, 1), j.assign('s', j.name(0), num(j, 1))));
        }
    }

    /** The 301st step is in turn each one of a statement, be it a statement, a node, or a part of a called body. */
    private static void atTheLimit() {
        int[] stepsOf = {1, 2, 3, 4, 4, 4, 5};
        for (int which = 0; which < stepsOf.length; which++) {
            for (int within = 0; within <= stepsOf[which]; within++) {
                Sequencepoint j = judge();
                j.addVariable(2, 0, true);
                j.addVariable(2, 0, false);
                int f = j.addFunction(2, -1, -1);
                j.setBody(f, j.simple('r', num(j, 4)));
                withStepsAhead(j, 300 - within, last(j, which));
                char due = within < stepsOf[which] ? 'l' : which == 3 ? 'x' : 'n';
                is(within + " steps of " + which, j.run(0), due);
                is("all steps", j.steps(), 300);
                is("undefinedOrders", j.undefinedOrders(), due == 'x' ? 16 : 0);
                if (due != 'x') {
                    refuses("no kind", NONE, j::kindOf);
                    refuses("no place", NONE, j::placeOf);
                }
            }
        }
    }

    private static void callLimit() {
        for (int deep = 2; deep < 12; deep++) {
            Sequencepoint j = judge();
            int n = j.addVariable(2, 0, false);
            int f = j.addFunction(2, n, -1);
            int none = j.addFunction(2, -1, -1);
            j.setBody(f, j.branch(j.name(n), deeper(j, f, n), j.simple('r', num(j, 9))));
            // The function 0 is 1 deep, so that a call of f with 0 is 2 deep.
            j.setBody(0, print(j, j.call(f, num(j, deep - 2), -1)));
            is("calls that are " + deep + " deep", again(j, 0), deep <= 8 ? "n:9 " : "l");
            is("undefinedOrders", j.undefinedOrders(), 0);
            is("optimised", j.runOptimised(0), deep <= 8 ? 'n' : 'l');
            int missing = j.call(none, -1, -1);
            j.setBody(f, j.branch(j.name(n), deeper(j, f, n), j.simple('r', missing)));
            is("a call of no body from " + deep, again(j, 0), deep < 8 ? "xi" + missing : "l");
        }
        Sequencepoint j = judge();
        j.setBody(0, j.then(print(j, num(j, 1)), j.simple('r', j.call(0, -1, -1))));
        is("the function 0 calls itself", again(j, 0), "l:1 1 1 1 1 1 1 1 ");
        is("its steps", j.steps(), 8 * 5);
        int zero = j.binary('/', num(j, 1), num(j, 0));
        int n = j.addVariable(2, 0, false);
        int f = j.addFunction(2, n, -1);
        int first = j.branch(j.binary('<', j.name(n), num(j, 7)),
                j.simple('r', j.call(f, j.binary('+', j.name(n), num(j, 1)), -1)), -1);
        j.setBody(f, j.then(first, j.simple('r', j.call(f, zero, -1))));
        j.setBody(0, print(j, j.call(f, num(j, 1), -1)));
        is("the parts come ahead of the call", again(j, 0), "xz" + zero);
    }

    /** Returns what f gives for 1 less than n. */
    private static int deeper(Sequencepoint j, int f, int n) {
        return j.simple('r', j.call(f, j.binary('-', j.name(n), num(j, 1)), -1));
    }

    private static long ones(int digits) {
        return digits == 0 ? 0 : ones(digits - 1) * 10 + 1;
    }

    private static void printLimit() {
        for (int length = 72; length < 92; length++) {
            Sequencepoint j = judge();
            int x = j.addVariable(2, 0, true);
            StringBuilder due = new StringBuilder("7 ".repeat(35));
            int whole = j.then(put(j, x, num(j, 35)), j.repeat(j.unary('D', j.name(x)), print(j, num(j, 7))));
            while (due.length() < length) {
                long value = ones(Math.max(1, Math.min(9, length - due.length() - 1)));
                due.append(value).append(' ');
                whole = j.then(whole, print(j, j.number((int) value, 4)));
            }
            j.setBody(0, whole);
            String shown = due.substring(0, Math.min(80, due.length()));
            for (int times = 0; times < 2; times++) {
                is("end of " + due.length() + " characters", times == 0 ? j.run(0) : j.runOptimised(0), 'n');
                is("text of " + due.length() + " characters", text(j), ":" + shown);
                is("printed", j.printed(), shown.length());
                is("the last one", j.printedAt(shown.length() - 1), shown.charAt(shown.length() - 1));
                refuses("behind it", INDEX, () -> j.printedAt(shown.length()));
                refuses("80", INDEX, () -> j.printedAt(80));
                refuses("far behind it", INDEX, () -> j.printedAt(Integer.MAX_VALUE));
                refuses("ahead of all", INDEX, () -> j.printedAt(-1));
                refuses("far ahead of all", INDEX, () -> j.printedAt(Integer.MIN_VALUE));
            }
        }
    }

    /** All 60 statements and 100 nodes are in use, those with the highest numbers outermost. */
    private static void fullPrograms() {
        Sequencepoint j = judge();
        int[] row = new int[30];
        StringBuilder due = new StringBuilder("n:");
        for (int k = 0; k < 30; k++) {
            int node = j.unary('-', j.unary('-', num(j, k % 10)));
            node = k >= 20 ? j.cast(4, node) : node;
            row[k] = print(j, node);
            due.append(k % 10).append(' ');
        }
        int left = 30;
        while (left > 1) {
            for (int k = 0; k + 1 < left; k += 2) {
                row[k / 2] = j.then(row[k], row[k + 1]);
            }
            row[left / 2] = left % 2 == 1 ? row[left - 1] : 0;
            left = (left + 1) / 2;
        }
        is("the sixtieth statement", j.block(row[0]), 59);
        refuses("no node more", STATE, () -> num(j, 1));
        j.setBody(0, 59);
        is("run", again(j, 0), due.toString());
        is("steps", j.steps(), 160);
        is("size", j.optimisedSize(), 90);
        is("steps of the optimiser", j.optimised(), 70);
        is("optimised", j.runOptimised(0), 'n');
        is("its text", "n" + text(j), due.toString());
        is("its steps", j.steps(), 90);
        is("as if", j.isAsIf() ? 1 : 0, 1);
    }

    /** Calls from the first to the 512th one answer as the document says. */
    private static void manyCalls() {
        Sequencepoint j = judge();
        j.addVariable(1, 8, false);
        j.setBody(0, j.repeat(num(j, 1), j.declare(0)));
        int calls = 6;
        long all = 0;
        while (calls < 509) {
            is("run", calls % 2 == 0 ? j.run(calls) : j.runOptimised(calls), 'l');
            all += 300;
            calls++;
            if (calls % 3 == 0) {
                is("allSteps", j.allSteps(), all);
                calls++;
            }
        }
        is("behaviours", j.behaviours(), 1);
        is("isAsIf", j.isAsIf() ? 1 : 0, 1);
    }

    // Behaviours

    /** With a global 2 to which each of these choices adds 1 if it takes the second part first, and otherwise -1. */
    private static Sequencepoint counting() {
        Sequencepoint j = withCalls();
        j.addVariable(2, 0, true);
        j.addVariable(2, 0, true);
        return j;
    }

    private static int turned(Sequencepoint j) {
        return j.binary('-', counts(j), counts(j));
    }

    private static int begin(Sequencepoint j) {
        return j.then(put(j, 0, num(j, 0)), put(j, 2, num(j, 0)));
    }

    private static int add(Sequencepoint j) {
        return just(j, j.assign('p', j.name(2), turned(j)));
    }

    private static int choices(Sequencepoint j, int count) {
        int whole = begin(j);
        for (int k = 0; k < count; k++) {
            whole = j.then(whole, add(j));
        }
        return whole;
    }

    private static int isSum(Sequencepoint j, int value) {
        return j.binary('=', j.name(2), num(j, value));
    }

    private static int forEver(Sequencepoint j) {
        return j.repeat(num(j, 1), just(j, j.name(2)));
    }

    /** Comes to the limit of steps, but not if it is optimised. */
    private static int shorterIfOptimised(Sequencepoint j) {
        int body = just(j, j.binary('+', num(j, 1), j.binary('+', num(j, 1), num(j, 1))));
        return j.then(put(j, 3, num(j, 45)), j.repeat(j.unary('D', j.name(3)), body));
    }

    private static void ordersFrom0To15() {
        Sequencepoint j = counting();
        j.setBody(0, all(j, begin(j), print(j, turned(j)), print(j, turned(j)), print(j, turned(j)),
                print(j, turned(j))));
        is("four choices", j.behaviours(), 16);
        Sequencepoint k = counting();
        k.setBody(0, all(k, begin(k), print(k, turned(k)), print(k, turned(k)), print(k, turned(k)),
                print(k, turned(k)), print(k, turned(k))));
        is("five choices", k.behaviours(), 16);
        is("the fifth one is turned by 16", again(k, 16), "n:-1 -1 -1 -1 1 ");
    }

    /** It comes to nothing with a meaning under the orders that have all bits of the mask, or none of them. */
    private static void someOrders() {
        for (int sign = -1; sign < 2; sign += 2) {
            for (int mask = 0; mask < 16; mask++) {
                Sequencepoint j = counting();
                int whole = begin(j);
                for (int bit = 0; bit < 4; bit++) {
                    whole = j.then(whole, (mask >> bit & 1) != 0 ? add(j) : just(j, turned(j)));
                }
                int bits = Integer.bitCount(mask);
                j.setBody(0, j.then(whole, print(j, j.binary('%', num(j, 0),
                        j.binary('-', j.name(2), num(j, sign * bits))))));
                int due = 16 >> bits;
                is("undefinedOrders of " + mask, j.undefinedOrders(), due);
                is("definedShare of " + mask, Float.compare(j.definedShare(), (16 - due) / 16f), 0);
                is("behaviours of " + mask, j.behaviours(), due == 16 ? 1 : 2);
                is("isAsIf of " + mask, j.isAsIf() ? 1 : 0, 1);
            }
        }
    }

    private static void behavioursDiffer() {
        Sequencepoint j = counting();
        j.setBody(0, j.then(choices(j, 1), j.branch(isSum(j, 1), forEver(j), -1)));
        is("by the end alone", j.behaviours(), 2);
        is("l has a meaning", j.undefinedOrders(), 0);
        is("and a share", Float.compare(j.definedShare(), 1f), 0);
        int z = just(j, j.binary('/', num(j, 1), num(j, 0)));
        int s = just(j, j.binary('l', num(j, 1), num(j, 16)));
        j.setBody(0, j.then(choices(j, 1), j.branch(isSum(j, 1), z, s)));
        is("by the kind alone", j.behaviours(), 2);
        is("all without a meaning", j.undefinedOrders(), 16);
        is("no share", Float.compare(j.definedShare(), 0f), 0);
        j.setBody(0, j.then(choices(j, 1), j.branch(isSum(j, 1), just(j, j.binary('/', num(j, 1), num(j, 0))),
                just(j, j.binary('%', num(j, 1), num(j, 0))))));
        is("not by the place", j.behaviours(), 1);
        Sequencepoint k = counting();
        k.setBody(0, all(k, choices(k, 1), print(k, num(k, 1)), k.branch(isSum(k, 1), print(k, num(k, 2)), -1)));
        is("by what is printed behind the same", k.behaviours(), 2);
        k.setBody(0, all(k, choices(k, 1), k.branch(isSum(k, 1), print(k, num(k, 2)), print(k, num(k, 1)))));
        is("by the first character", k.behaviours(), 2);
        k.setBody(0, all(k, choices(k, 1), k.branch(isSum(k, 1), just(k, num(k, 2)), print(k, num(k, 1)))));
        is("by nothing printed", k.behaviours(), 2);
        k.setBody(0, choices(k, 4));
        is("not by the orders", k.behaviours(), 1);
    }

    private static void behavioursBeyond80() {
        for (int turns = 38; turns < 42; turns++) {
            Sequencepoint j = counting();
            int loop = j.repeat(j.unary('D', j.name(3)), print(j, num(j, 7)));
            // 39 turns print 78 characters, so that the digit that differs is the 80th one.
            j.setBody(0, all(j, choices(j, 1), put(j, 3, num(j, turns)), loop,
                    print(j, j.binary('+', num(j, 15), j.name(2)))));
            is(turns * 2 + " characters ahead", j.behaviours(), turns < 40 ? 2 : 1);
        }
    }

    /** What one call has gathered is of no weight for the next one. */
    private static void oneQuestionAfterAnother() {
        Sequencepoint j = counting();
        int many = all(j, begin(j), print(j, turned(j)), print(j, turned(j)), print(j, turned(j)), print(j, turned(j)));
        int some = j.then(choices(j, 2), j.branch(isSum(j, 2), just(j, j.binary('/', num(j, 1), num(j, 0))), -1));
        int none = just(j, num(j, 1));
        int wrong = just(j, j.binary('%', num(j, 1), num(j, 0)));
        int fine = choices(j, 1);
        int[] bodies = {many, some, none, wrong, fine};
        int[] behaviours = {16, 2, 1, 1, 1};
        int[] undefined = {0, 4, 0, 16, 0};
        int last = -1;
        for (int k = 0; k < 25; k++) {
            for (int which : new int[] {k / 5, k % 5}) {
                if (which != last) {
                    j.setBody(0, bodies[which]);
                    is("behaviours of " + which, j.behaviours(), behaviours[which]);
                    is("undefinedOrders of " + which, j.undefinedOrders(), undefined[which]);
                    is("isAsIf of " + which, j.isAsIf() ? 1 : 0, 1);
                    last = which;
                }
            }
        }
        is("no run was made", j.steps() + j.allSteps() + j.printed() + j.choices(), 0);
        refuses("no kind", NONE, j::kindOf);
    }

    private static void lastRuns() {
        Sequencepoint j = counting();
        int wrong = j.binary('/', num(j, 1), num(j, 0));
        int made = all(j, begin(j), print(j, turned(j)), print(j, wrong));
        j.setBody(0, made);
        is("run", again(j, 1), "xz" + wrong + ":1 ");
        int steps = j.steps();
        is("steps", steps, 3 + 6 + 1 + 7 + 4);
        j.setBody(0, choices(j, 4));
        is("behaviours", j.behaviours(), 1);
        is("undefinedOrders", j.undefinedOrders(), 0);
        is("definedShare", Float.compare(j.definedShare(), 1f), 0);
        is("optimised", j.optimised(), 0);
        is("optimisedSize", j.optimisedSize() > 0 ? 1 : 0, 1);
        is("isAsIf", j.isAsIf() ? 1 : 0, 1);
        is("the kind is that of the last run", j.kindOf(), 'z');
        is("its place", j.placeOf(), wrong);
        is("its steps", j.steps(), steps);
        is("its choices", j.choices(), 1);
        is("its text", text(j), ":1 ");
        is("allSteps", j.allSteps(), steps);
        is("another run", j.runOptimised(0), 'n');
        refuses("no kind", NONE, j::kindOf);
        refuses("no place", NONE, j::placeOf);
        is("nothing printed", j.printed(), 0);
        refuses("no character", INDEX, () -> j.printedAt(0));
        is("choices", j.choices(), 4);
        is("allSteps of both", j.allSteps(), steps + j.steps());
    }

    // As if

    private static void asIfButForOneOrder() {
        for (int sum = -4; sum <= 4; sum += 8) {
            Sequencepoint j = counting();
            j.setBody(0, j.then(choices(j, 4), j.branch(isSum(j, sum), shorterIfOptimised(j), forEver(j))));
            is("l alone", j.behaviours(), 1);
            is("none without a meaning", j.undefinedOrders(), 0);
            for (int order = 0; order < 16; order++) {
                is("run " + order, j.run(order), 'l');
                is("optimised run " + order, j.runOptimised(order), order == (sum < 0 ? 0 : 15) ? 'n' : 'l');
            }
            is("not as if", j.isAsIf() ? 1 : 0, 0);
            Sequencepoint k = counting();
            k.setBody(0, k.then(choices(k, 4), k.branch(isSum(k, sum), just(k, k.binary('/', num(k, 1), num(k, 0))),
                    shorterIfOptimised(k))));
            is("one without a meaning", k.undefinedOrders(), 1);
            is("is as if", k.isAsIf() ? 1 : 0, 1);
        }
    }

    /** Choices that are folded away let later ones look at other bits. */
    private static void asIfWithFewerChoices() {
        for (int folded = 0; folded < 6; folded++) {
            Sequencepoint j = counting();
            int whole = begin(j);
            for (int k = 0; k < folded; k++) {
                whole = j.then(whole, just(j, j.binary('+', j.binary('a', num(j, 0), counts(j)),
                        j.binary('o', num(j, 1), counts(j)))));
            }
            j.setBody(0, j.then(whole, print(j, turned(j))));
            is("choices behind " + folded, j.run(0) == 'n' ? j.choices() : -1, folded + 1);
            is("optimised choices", j.runOptimised(1) == 'n' ? j.choices() : -1, 1);
            is("they look at the bit 0", text(j), ":1 ");
            is("behaviours", j.behaviours(), folded < 4 ? 2 : 1);
            is("as if", j.isAsIf() ? 1 : 0, folded < 4 ? 1 : 0);
            is("each of the four steps", j.optimised(), 5L * folded);
        }
    }

    public static void main(String[] args) {
        about("If there is a call in both of them, or in what they are made of, an order is chosen.",
                RunBoundsTest::whichPartsAreChosen, RunBoundsTest::callsBelowBothParts,
                        RunBoundsTest::bothPartsOfACall);
        about("Else the first part comes first.", RunBoundsTest::theFirstPartComesFirst);
        about("The k-th choice, the order divided by 2 to the power of k modulo 30.", RunBoundsTest::bitsOfOrders,
                RunBoundsTest::choicesInTheirOrder);
        about("A run ends with 'l' when the 301st step would be made.", RunBoundsTest::stepLimit,
                RunBoundsTest::atTheLimit);
        about("Or a call would be more than 8 deep.", RunBoundsTest::callLimit);
        about("At most 80 characters are printed, more are left out.", RunBoundsTest::printLimit);
        about("At most 100 nodes and 60 statements, all of them in use.", RunBoundsTest::fullPrograms);
        about("An object is used for at most 512 calls.", RunBoundsTest::manyCalls);
        about("The behaviours of a program are those under the orders 0 to 15.", RunBoundsTest::ordersFrom0To15,
                RunBoundsTest::someOrders);
        about("How a run ends, with the kind of what has no meaning, and what it has printed.",
                RunBoundsTest::behavioursDiffer, RunBoundsTest::behavioursBeyond80,
                        RunBoundsTest::oneQuestionAfterAnother);
        about("Of the last run, by run() and runOptimised().", RunBoundsTest::lastRuns);
        about("Each behaviour of the optimised program is one of the program.", RunBoundsTest::asIfButForOneOrder,
                RunBoundsTest::asIfWithFewerChoices);
        finish("RunBoundsTest");
    }
}
