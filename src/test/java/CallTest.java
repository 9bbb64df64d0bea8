/** Promises 14, 16, 17 and 22: call, outcome, cause, did; E's, wraps and STEPS. */
final class CallTest {
    private CallTest() {
    }

    public static void main(String[] args) {
        numbers();
        needs();
        wraps();
        order();
        arounds();
        failings();
        types();
        levels();
        refusals();
        things();
        steps();
        Desk.finish("CallTest");
    }

    private static WiringHouse one(String e) {
        WiringHouse x = Desk.ready("setting s 5; type a; component c is a house { method m " + e + "; }");
        Desk.due("get", x.get(0, 0), 0);
        return x;
    }

    private static void worth(String e, int arg, int answer, int parts) {
        WiringHouse x = one(e);
        Desk.due(e, x.call(0, 0, 0, arg), answer);
        Desk.due(e + ": outcome", x.outcome(), 0);
        Desk.due(e + ": cause", x.cause(0), 0);
        Desk.due(e + ": steps", x.count(10), parts + 1);
    }

    private static void numbers() {
        worth("7", 1, 7, 1);
        worth("arg", -3, -3, 1);
        worth("1+2*3", 0, 7, 3);
        worth("(1+2)*3", 0, 9, 4);
        worth("10-2-3", 0, 5, 3);
        worth("2*3*4-1", 0, 23, 4);
        worth("-2*3", 0, -6, 3);
        worth("- -arg", 4, 4, 3);
        worth("-(1-5)", 0, 4, 4);
        worth("1<2", 0, 1, 2);
        worth("2<2", 0, 0, 2);
        worth("-1<0", 0, 1, 3);
        worth("2=2", 0, 1, 2);
        worth("1=2", 0, 0, 2);
        worth("1+1<1*3", 0, 1, 4);
        worth("arg+1<arg", Integer.MAX_VALUE, 1, 3);
        worth("arg*arg", 65536, 0, 2);
        worth("-arg", Integer.MIN_VALUE, Integer.MIN_VALUE, 2);
        worth("999999999*10", 0, 1410065398, 2);
        worth("arg-1", Integer.MIN_VALUE, Integer.MAX_VALUE, 2);
        worth("setting s*2", 0, 10, 2);
        worth("pick(arg,1,2)", 5, 1, 3);
        worth("pick(arg,1,2)", 0, 2, 3);
        worth("pick(arg,fail 1,2+2)", 0, 4, 4);
        worth("pick(arg-1,3,fail 1)*2", -1, 6, 5);
        worth("pick(pick(arg,0,1),10,20)", 0, 10, 5);
        WiringHouse x = one("1 + fail 8 + fail 7");
        Desk.due("fail", x.call(0, 0, 0, 0), 0);
        Desk.causes("fail", x, 8);
        Desk.due("steps", x.count(10), 3);
    }

    private static void needs() {
        WiringHouse x = Desk.ready("type a; type b; type c; component k is a house { method m arg * 2; } component l is a house { method m arg * 3; method n arg; } "
            + "component u is b house { need all a; need all c; need b called w; method p of 0.m(arg + 1); method q of 1.m(fail 2); method r of 1.m(5); method s of 2.m(4) + of 2.m(1); method t of 0.n(1); }"
            + "component v is b house called w { method m arg - 1; }");
        int u = x.get(0, 2);
        Desk.due("of all", x.call(0, u, Desk.named(x, "p", 3), 1), 10);
        Desk.due("the first", x.did(1, 1), 1);
        Desk.due("the second", x.did(2, 1), 2);
        Desk.due("its arg", x.did(2, 2), 2);
        Desk.due("steps: call, of, arg, 1, and two calls with two each", x.count(10), 10);
        Desk.due("E comes first, though there is none", x.call(0, u, Desk.named(x, "q", 3), 1), 0);
        Desk.causes("E comes first", x, 2);
        Desk.due("of none", x.call(0, u, Desk.named(x, "r", 3), 1), 0);
        Desk.due("outcome", x.outcome(), 0);
        Desk.due("of a need", x.call(0, u, Desk.named(x, "s", 3), 1), 3);
        Desk.due("of all, one without it", x.call(0, u, Desk.named(x, "t", 3), 1), 0);
        Desk.causes("of all, one without it", x, 11);
        Desk.due("nothing is noted of it", x.did(1, 0), -1);
    }

    private static WiringHouse wrapped(String wraps) {
        WiringHouse x = Desk.ready("setting s 5; type a; type b like a; type z; component c is b house { method m arg * 10 + 1; method f fail 4; } " + wraps);
        Desk.due("get", x.get(0, 0), 0);
        return x;
    }

    private static void did(WiringHouse x, int[]... rows) {
        for (int i = 0; i < rows.length; i++) {
            for (int what = 0; what < 3; what++) {
                Desk.due("did(" + i + ", " + what + ")", x.did(i, what), rows[i][what]);
            }
        }
        Desk.due("no more was done", x.did(rows.length, 0), -1);
    }

    private static int[] row(int... thing) {
        return thing;
    }

    private static void wraps() {
        WiringHouse x = wrapped("wrap a.m 5 before arg + 1; wrap a.m 5 after arg * 2; wrap b.m 5 around go(arg) + go(arg + 1); wrap a.m 5 failing 77;");
        Desk.due("call", x.call(0, 0, 0, 1), 42 + 62);
        did(x, row(1, 2, 1), row(0, 0, 1), row(4, 0, 2), row(2, 1, 21), row(0, 0, 2), row(4, 0, 3), row(2, 1, 31));
        Desk.due("steps", x.count(10), 1 + 5 + 2 * (2 + 3 + 2));
        Desk.due("did(-1)", x.did(-1, 0), -1);
        Desk.due("did(0, 3)", x.did(0, 3), -1);
        Desk.due("did(0, -1)", x.did(0, -1), -1);
        WiringHouse y = wrapped("wrap a.m 1 around 3;");
        Desk.due("an around without go", y.call(0, 0, 0, 9), 3);
        did(y, row(1, 0, 9));
    }

    private static void order() {
        WiringHouse x = wrapped("wrap a.m 5 before arg * 2; wrap a.m 3 before arg + 1; wrap a.m 5 before arg + 3; wrap a.m 3 after arg + 5; wrap a.m 4 after arg * 2; wrap a.m 3 after arg * 3; wrap z.m 4 after fail 1;");
        // arg 1: 3 is +1: 2; then 5 as told: *2: 4, +3: 7; 71; afters falling: 4: *2, then the latest told of 3: *3, +5.
        Desk.due("call", x.call(0, 0, 0, 1), 71 * 2 * 3 + 5);
        did(x, row(0, 1, 1), row(0, 0, 2), row(0, 2, 4), row(4, 0, 7), row(2, 4, 71), row(2, 5, 142), row(2, 3, 426));
        WiringHouse y = wrapped("wrap a.m 5 before fail 3; wrap a.m 6 before 1; wrap a.m 1 after 1;");
        Desk.due("a before that fails", y.call(0, 0, 0, 1), 0);
        Desk.causes("a before that fails", y, 3);
        did(y, row(0, 0, 1));
        WiringHouse z = wrapped("wrap a.m 5 after fail 3; wrap a.m 4 after 1;");
        Desk.due("an after that fails", z.call(0, 0, 0, 1), 0);
        Desk.causes("an after that fails", z, 3);
        did(z, row(4, 0, 1), row(2, 0, 11));
    }

    private static void arounds() {
        WiringHouse x = wrapped("wrap a.m 7 around go(arg + 1) * 2; wrap b.m 2 around go(arg * 2) + 5;");
        // 2 is outside: 3 * 2: 6, then 7: 7: 71 * 2, + 5.
        Desk.due("call", x.call(0, 0, 0, 3), 147);
        did(x, row(1, 1, 3), row(1, 0, 6), row(4, 0, 7));
        WiringHouse y = wrapped("wrap a.m 2 around go(arg + 1) * 2; wrap b.m 2 around go(arg * 2) + 5;");
        // Of one number as told: 3 + 1: 4, 8: 81 + 5, * 2.
        Desk.due("call", y.call(0, 0, 0, 3), 172);
        did(y, row(1, 0, 3), row(1, 1, 4), row(4, 0, 8));
        WiringHouse z = wrapped("wrap a.m 1 around pick(arg, go(go(arg)), 9); wrap a.m 2 around go(arg) + go(arg);");
        Desk.due("within one another", z.call(0, 0, 0, 1), (11 + 11) * 20 + 2);
        Desk.due("not gone on", z.call(0, 0, 0, 0), 9);
    }

    private static void failings() {
        WiringHouse x = wrapped("wrap a.f 1 failing arg * 100; wrap a.f 2 failing fail 9; wrap a.f 2 failing fail 8; wrap a.f 0 failing 5;");
        Desk.due("failings", x.call(0, 0, Desk.named(x, "f", 3), 1), 400);
        Desk.due("outcome", x.outcome(), 0);
        Desk.due("cause", x.cause(0), 0);
        did(x, row(4, 0, 1), row(3, 2, 4), row(3, 1, 4), row(3, 0, 4));
        WiringHouse y = wrapped("wrap a.f 1 failing fail 9; wrap a.f 2 failing fail 8;");
        Desk.due("none answers", y.call(0, 0, Desk.named(y, "f", 3), 1), 0);
        Desk.causes("the first failure goes on", y, 4);
        WiringHouse z = wrapped("wrap a.n 1 failing arg; wrap a.f 3 around fail 6; wrap a.f 4 failing arg; wrap a.f 5 after fail 1; wrap a.m 1 before fail 2; wrap a.m 2 failing arg * 3; wrap a.m 3 after arg + 1;");
        Desk.due("NO METHOD, taken", z.call(0, 0, Desk.named(z, "n", 3), 1), 11);
        did(z, row(3, 0, 11));
        Desk.due("an around's failure", z.call(0, 0, Desk.named(z, "f", 3), 1), 6);
        did(z, row(1, 1, 1), row(3, 2, 6));
        Desk.due("a before's failure; no afters of what a failing answers", z.call(0, 0, 0, 1), 6);
        did(z, row(0, 4, 1), row(3, 5, 2));
        // The failings stand outside the arounds, which are not asked about what is inside them.
        WiringHouse v = wrapped("wrap a.f 1 around go(arg) + 1000; wrap a.f 1 failing arg;");
        Desk.due("the around failed with what it held", v.call(0, 0, Desk.named(v, "f", 3), 1), 4);
        // The first kind of a late need's failure may be 20.
        WiringHouse w = Desk.ready("type a; type b; type c; component k is a house { need late b; method m of 0.m(1); } component l is b house { need c; } "
            + "component n is c house { opened fail 2; } wrap a.m 1 failing arg;");
        w.get(0, 0);
        Desk.due("the first kind", w.call(0, 0, 0, 0), 20);
    }

    private static void types() {
        WiringHouse x = Desk.ready("type a; type b like a; type c; component k is a house { method m 1; } component l is b house { method m 1; } component n is c, b house { method m 1; } "
            + "component o is c house { method m 1; } wrap a.m 1 after arg + 10; wrap b.m 1 after arg + 100; wrap c.m 1 after arg + 1000; wrap a.q 1 after 0;");
        int[] answers = {11, 111, 1111, 1001};
        for (int c = 0; c < 4; c++) {
            Desk.due("wraps of component " + c, x.call(0, x.get(0, c), 0, 0), answers[c]);
        }
    }

    private static void levels() {
        String chain = "type t0; component c0 is t0 house { method m 1; }";
        for (int k = 1; k < 11; k++) {
            chain += "type t" + k + "; component c" + k + " is t" + k + " house { need t" + (k - 1) + "; method m of 0.m(1) + 1; }";
        }
        WiringHouse x = Desk.ready(chain);
        x.get(0, 10);
        Desk.due("ten within one another", x.call(0, 1, 0, 0), 10);
        Desk.due("eleven", x.call(0, 0, 0, 0), 0);
        Desk.causes("eleven", x, 13);
        Desk.due("the eleventh is a step", x.count(10), 10 * 3 + 1);
        // The eleventh is not wrapped, the tenth is.
        WiringHouse y = Desk.ready(chain + "wrap t0.m 1 failing 50; wrap t1.m 2 failing 60;");
        y.get(0, 10);
        Desk.due("the tenth's failing", y.call(0, 0, 0, 0), 69);
        did(y, row(4, 0, 0), row(4, 1, 1), row(4, 2, 1), row(4, 3, 1), row(4, 4, 1), row(4, 5, 1), row(4, 6, 1), row(4, 7, 1), row(4, 8, 1), row(4, 9, 1), row(3, 1, 13));
        WiringHouse v = Desk.ready(chain.replace("need", "need all"));
        v.get(0, 10);
        Desk.due("ten of all", v.call(0, 1, 0, 0), 10);
        Desk.due("eleven of all", v.call(0, 0, 0, 0), 0);
        Desk.causes("eleven of all", v, 13);
        // A get()'s opened: its calls are the first.
        WiringHouse z = Desk.ready(chain + "type z; component e is z house { need t9; opened of 0.m(1); } component f is z house { need t10; opened of 0.m(1); }");
        Desk.due("ten", z.get(0, 11), 0);
        Desk.due("eleven", z.get(0, 12), -1);
        Desk.causes("eleven", z, 13);
        Desk.due("13 does not spoil", z.spoiled(0, 12), 0);
    }

    private static void refusals() {
        WiringHouse x = Desk.house("type a; component c is a house { method m 1; opened fail 1; } component d is a house { method m arg; }");
        Desk.due("nothing is there", x.call(0, 0, 0, 0), 0);
        Desk.due("outcome", x.outcome(), 4);
        Desk.due("no scope", x.call(1, 0, 0, 0), 0);
        Desk.due("outcome", x.outcome(), 3);
        x.check();
        x.get(0, 0);
        x.get(0, 1);
        Desk.due("one that went", x.call(0, 0, 0, 0), 0);
        Desk.due("outcome", x.outcome(), 4);
        Desk.due("well", x.call(0, 1, 0, 6), 6);
        Desk.due("outcome", x.outcome(), 0);
        int[][] rows = {{0, 2, 0, 4}, {0, -1, 0, 4}, {0, 1, 1, 4}, {0, 1, -1, 4}, {-1, 1, 0, 3}, {7, 9, 9, 3}};
        for (int[] r : rows) {
            Desk.due("call", x.call(r[0], r[1], r[2], 6), 0);
            Desk.due("outcome", x.outcome(), r[3]);
            Desk.due("cause", x.cause(0), 0);
            Desk.due("did", x.did(0, 0), -1);
            Desk.due("steps", x.count(10), 0);
        }
        x.day();
        x.close(1);
        Desk.due("a closed scope", x.call(1, 1, 0, 6), 0);
        Desk.due("outcome", x.outcome(), 3);
    }

    private static void things() {
        WiringHouse x = Desk.ready("type a; type b; component k is a house { method m 1; } component l is b house { need all a; opened of 0.m(5); closed of 0.m(6); method n "
            + Desk.times(120, "of 0.m(#)+") + "1; }");
        x.get(0, 1);
        Desk.due("what get() did is not told", x.did(0, 0), -1);
        Desk.due("call", x.call(0, 0, Desk.named(x, "n", 3), 0), 121);
        Desk.due("the 100th", x.did(99, 2), 98);
        Desk.due("the 101st", x.did(100, 0), -1);
        x.close(0);
        Desk.due("close() does not change it", x.did(99, 2), 98);
        x.get(0, 1);
        Desk.due("nor does get()", x.did(0, 0), 4);
        // What is made, opened and undone within a call is told.
        WiringHouse y = Desk.ready("type a; type b; type c; component k is a house { need late b; method m of 0.m(3); } component n is c house { method m arg; closed 1; } "
            + "component l is b house { need c; opened of 0.m(8) + fail 1; }");
        y.get(0, 0);
        Desk.due("call", y.call(0, 0, 0, 2), 0);
        did(y, row(4, 0, 2), row(4, 2, 8));
    }

    private static void steps() {
        String dear = "type a; type b; component k is a house { method m 1+1+1+1+1+1+1+1; } component l is b house { need a; method n of 0.m(of 0.m(1))*0+arg; method o "
            + Desk.times(280, "of 0.m(1)+") + "arg; method p " + Desk.times(100, "1+") + "1; }";
        WiringHouse x = Desk.ready(dear + "wrap b.o 1 failing 1; wrap b.q 1 around go(go(go(go(go(go(go(1)))))));");
        int l = x.get(0, 1);
        Desk.due("call", x.call(0, l, Desk.named(x, "n", 3), 5), 5);
        Desk.due("steps", x.count(10), 1 + 2 + 1 + 9 + 9 + 1 + 1);
        Desk.due("steps in all", x.count(9), x.count(10) + 2);
        Desk.due("spent", x.call(0, l, Desk.named(x, "o", 3), 5), 0);
        Desk.due("no failing takes that", x.outcome(), 6);
        Desk.due("cause", x.cause(0), 0);
        Desk.due("steps", x.count(10), 3000);
        Desk.due("the 100th thing", x.did(99, 1), 1);
        // At the edge: exactly 3,000 steps are well.
        String body = Desk.times(27, "of 0.p(1)+") + Desk.times(WELL_REST, "1+") + "1";
        WiringHouse y = Desk.ready("type a; type b; component k is a house { method p " + Desk.times(107, "1+") + "1; } component l is b house { need a; method m " + body + "; method n 0+" + body + "; }");
        int o = y.get(0, 1);
        Desk.due("3,000 steps", y.call(0, o, Desk.named(y, "m", 3), 0), 27 * 108 + WELL_REST + 1);
        Desk.due("outcome", y.outcome(), 0);
        Desk.due("steps", y.count(10), 3000);
        Desk.due("3,001 steps", y.call(0, o, Desk.named(y, "n", 3), 0), 0);
        Desk.due("outcome", y.outcome(), 6);
        Desk.due("steps", y.count(10), 3000);
    }

    // 3,000 less the call itself, 27 times (of, 1, a call, 108 parts) and the last 1.
    private static final int WELL_REST = 3000 - 1 - 27 * 111 - 1;
}
