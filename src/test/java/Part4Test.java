/** Part 4 of the document's terms, TO CALL, E's, STEPS and TO CLOSE: a test for each sentence that names an edge, with its words. */
final class Part4Test {
    private Part4Test() {
    }

    public static void main(String[] args) {
        eleventhCall();
        eleventhGet();
        notWithin();
        itsWraps();
        arounds();
        befores();
        withoutMethod();
        afters();
        failings();
        noneAnswers();
        numbersWrap();
        comparisons();
        settings();
        picks();
        ofNeeds();
        scopeOfCalls();
        ofAll();
        lateOnes();
        lateNewOnes();
        endsFirst();
        stepsOfEach();
        aheadOfWhatIsIn();
        threeThousand();
        sixtyThousand();
        spentMakings();
        closing();
        closingSpent();
        went();
        Desk.finish("Part4Test");
    }

    private static int[] row(int... numbers) {
        return numbers;
    }

    // ---- those within one another

    /** c0 to c11, each of which needs the one ahead of it and calls it. */
    private static String chain(String need) {
        StringBuilder text = new StringBuilder("type t0; component c0 is t0 house { method m arg; }");
        for (int k = 1; k < 12; k++) {
            text.append("type t" + k + "; component c" + k + " is t" + k + " house { need " + need + "t" + (k - 1) + "; method m of 0.m(arg) + 1; }");
        }
        return text.toString();
    }

    private static void eleventhCall() {
        Desk.says("of those within one another, with GETS of late needs, the 11th fails: 13");
        for (String need : new String[] {"", "all "}) {
            WiringHouse x = Desk.ready(chain(need));
            for (int k = 0; k < 12; k++) {
                int o = x.get(0, k);
                if (k < 10) {
                    Desk.due("c" + k, x.call(0, o, 0, 5), 5 + k);
                    Desk.due("STEPS of c" + k, x.count(10), 2 + 4 * k);
                } else {
                    Desk.callFails(x, 0, o, "m", 13);
                    Desk.due("METHODS begun", x.did(9, 0), 4);
                    Desk.due("no eleventh", x.did(10, 0), -1);
                }
            }
        }
        // Of a get() and a close() the first CALL is the first.
        WiringHouse y = Desk.ready(chain("") + "type z; component p is z house { need t9; opened of 0.m(1); } component q is z house { need t10; opened of 0.m(1); } "
            + "component r is z house { need t9; closed of 0.m(1); } component s is z house { need t10; closed of 0.m(1); }");
        Desk.due("ten", y.get(0, 12) >= 0, true);
        Desk.getFails(y, 0, 13, 13);
        int r = y.get(0, 14);
        int s = y.get(0, 15);
        y.close(0);
        Desk.due("s is closed at once", y.closed(1, 0), s);
        Desk.due("eleven", y.closed(1, 1), 13);
        Desk.due("then c10, then r", y.closed(3, 0), r);
        Desk.due("ten", y.closed(3, 1), 0);
    }

    private static void eleventhGet() {
        Desk.says("with GETS of late needs, the 11th fails: 13");
        // A GET of one that is there counts while it lasts: at the tenth CALL it is the eleventh.
        WiringHouse x = Desk.ready(chain("late "));
        for (int k = 0; k < 12; k++) {
            x.get(0, k);
        }
        Desk.due("ten", x.call(0, 9, 0, 5), 14);
        Desk.callFails(x, 0, 10, "m", 13);
        Desk.due("STEPS: ten times CALL, of, arg", x.count(10), 30);
        // GETS that make within one another: each opened is within the GET ahead of it.
        StringBuilder text = new StringBuilder("type t0; component c0 is t0 house { method m 1; }");
        for (int k = 1; k < 12; k++) {
            text.append("type t" + k + "; component c" + k + " is t" + k + " house { need late t" + (k - 1) + "; opened of 0.m(1); method m 1; }");
        }
        WiringHouse y = Desk.ready(text.toString());
        Desk.due("ten GETS", y.get(0, 10), 0);
        Desk.due("eleven made", y.count(7), 11);
        WiringHouse z = Desk.ready(text.toString());
        Desk.getFails(z, 0, 11, 13);
        Desk.due("eleven begun", z.count(6), 11);
        Desk.due("none made", z.count(7), 0);
        for (int k = 0; k < 12; k++) {
            Desk.due("13 spoils none", z.spoiled(0, k), 0);
        }
    }

    private static void notWithin() {
        Desk.says("of those within one another");
        // Side by side, through arounds, and makings of needs that are not late: these are not within one another.
        WiringHouse x = Desk.ready("type a; type b; component k is a house { method m 1; } component l is b house { need a; method m " + "of 0.m(1)+".repeat(20) + "0; }");
        Desk.due("twenty side by side", x.call(0, x.get(0, 1), 0, 0), 20);
        String alike = "type r;" + chain("").replaceAll("type (t[0-9]+);", "type $1 like r;");
        WiringHouse y = Desk.ready(alike + "wrap r.m 1 around go(arg) + 10; wrap r.m 2 around go(arg) + 100; wrap r.m 1 before arg + 1;");
        Desk.due("ten, each in two arounds", y.call(0, y.get(0, 9), 0, 5), 5 + 10 * (10 + 100 + 1) + 9);
        StringBuilder text = new StringBuilder(Desk.times(24, "type t#;"));
        for (int c = 0; c < 23; c++) {
            text.append("component c" + c + " is t" + c + " house { need t" + (c + 1) + "; }");
        }
        WiringHouse z = Desk.ready(text + "component c23 is t23 house {}");
        Desk.due("24 makings", z.get(0, 0), 0);
        Desk.due("all are made", z.count(7), 24);
    }

    // ---- wraps

    private static WiringHouse wrapped(String wraps) {
        WiringHouse x = Desk.ready("setting s 5; type a; type b like a; type z; component c is b house { method m arg * 10 + 1; method f fail 4; } " + wraps);
        Desk.due("get", x.get(0, 0), 0);
        return x;
    }

    private static void itsWraps() {
        Desk.says("Its wraps are those of that METHOD and a TYPE that its component is UNDER");
        WiringHouse x = wrapped("wrap a.m 1 after arg + 100; wrap b.m 2 after arg + 1000; wrap z.m 3 after fail 1; wrap b.n 4 after fail 2; wrap a.f 1 before fail 3;");
        Desk.due("of a and b", x.call(0, 0, 0, 1), 1111);
        Desk.did(x, row(4, 0, 1), row(2, 1, 11), row(2, 0, 1011));
        Desk.callFails(x, 0, 0, "f", 3);
        WiringHouse y = Desk.ready("type a; type b like a; type c like b; type d; component k is a house { method m 0; } component l is b house { method m 0; } component m is c house { method m 0; } "
            + "component n is d, b house { method m 0; } wrap a.m 0 after arg + 1; wrap b.m 0 after arg + 10; wrap c.m 0 after arg + 100; wrap d.m 0 after arg + 1000;");
        int[] due = {1, 11, 111, 1011};
        for (int c = 0; c < 4; c++) {
            Desk.due("component " + c, y.call(0, y.get(0, c), 0, 0), due[c]);
        }
    }

    private static void arounds() {
        Desk.says("Arounds, by rising numbers (of one number as told)");
        WiringHouse x = wrapped("wrap a.m 9 around go(arg + 1) * 2; wrap a.m 3 around go(arg * 3) + 5;");
        Desk.due("3 is outside 9", x.call(0, 0, 0, 2), (6 + 1) * 10 * 2 + 2 + 5);
        Desk.did(x, row(1, 1, 2), row(1, 0, 6), row(4, 0, 7));
        WiringHouse y = wrapped("wrap a.m 3 around go(arg + 1) * 2; wrap b.m 3 around go(arg * 3) + 5;");
        Desk.due("as told", y.call(0, 0, 0, 2), (91 + 5) * 2);
        Desk.did(y, row(1, 0, 2), row(1, 1, 3), row(4, 0, 9));
        WiringHouse w = wrapped("wrap a.m 99 around go(arg + 1) * 2; wrap b.m 0 around go(arg * 3) + 5;");
        Desk.due("0 is outside 99", w.call(0, 0, 0, 2), (6 + 1) * 10 * 2 + 2 + 5);
        Desk.says("go ( E ) being all that is inside, with that arg; it may come as often as one likes");
        WiringHouse z = wrapped("wrap a.m 1 around go(arg) + go(arg + 1) + go(go(0)); wrap a.m 1 before arg * 2; wrap a.m 1 after arg + 3;");
        Desk.due("four times", z.call(0, 0, 0, 1), 24 + 44 + (4 * 20 + 4));
        Desk.did(z, row(1, 0, 1), row(0, 1, 1), row(4, 0, 2), row(2, 2, 21), row(0, 1, 2), row(4, 0, 4), row(2, 2, 41), row(0, 1, 0), row(4, 0, 0), row(2, 2, 1), row(0, 1, 4), row(4, 0, 8), row(2, 2, 81));
        WiringHouse v = wrapped("wrap a.m 1 around arg + 7; wrap a.m 2 around fail 1; wrap a.m 1 before fail 2;");
        Desk.due("not at all", v.call(0, 0, 0, 1), 8);
        Desk.did(v, row(1, 0, 1));
        WiringHouse u = wrapped("wrap a.m 1 around pick(arg, go(arg), go(arg - 1)); wrap a.m 2 around go(arg) * arg + go(arg);");
        Desk.due("both inside", u.call(0, 0, 0, 3), 31 * 3 + 31);
        Desk.due("arg is the around's own", u.call(0, 0, 0, 0), -9 * -1 - 9);
    }

    private static void befores() {
        Desk.says("befores, by rising numbers (of one as told): arg becomes E's");
        WiringHouse x = wrapped("wrap a.m 50 before arg * 2; wrap a.m 7 before arg + 1; wrap b.m 50 before arg - 3; wrap a.m 99 before arg * 5; wrap a.m 0 before arg + 10;");
        // 1: +10: 11; +1: 12; *2: 24; -3: 21; *5: 105.
        Desk.due("befores", x.call(0, 0, 0, 1), 1051);
        Desk.did(x, row(0, 4, 1), row(0, 1, 11), row(0, 0, 12), row(0, 2, 24), row(0, 3, 21), row(4, 0, 105));
        WiringHouse y = wrapped("wrap a.m 1 before arg; wrap a.m 2 before arg + fail 6; wrap a.m 3 before arg; wrap a.m 1 after arg;");
        Desk.callFails(y, 0, 0, "m", 6);
        Desk.did(y, row(0, 0, 1), row(0, 1, 1));
    }

    private static void withoutMethod() {
        Desk.says("then the component's METHOD, without one failure 11 (nothing is noted of it)");
        WiringHouse x = wrapped("wrap z.n 1 before 1; wrap a.o 1 before arg + 1; wrap a.o 1 after fail 1; wrap a.p 1 around go(arg) + 1; wrap a.q 1 around 6; wrap a.r 1 failing arg;");
        Desk.callFails(x, 0, 0, "n", 11);
        Desk.did(x);
        Desk.due("STEPS: the CALL", x.count(10), 1);
        Desk.callFails(x, 0, 0, "o", 11);
        Desk.did(x, row(0, 1, 1));
        Desk.callFails(x, 0, 0, "p", 11);
        Desk.did(x, row(1, 3, 1));
        Desk.due("an around that does not go inside", Desk.call(x, 0, 0, "q", 1), 6);
        Desk.due("a failing takes it", Desk.call(x, 0, 0, "r", 1), 11);
        Desk.did(x, row(3, 5, 11));
    }

    private static void afters() {
        Desk.says("then afters, by falling numbers (of one number the latest told first): the answer, as arg, becomes E's");
        WiringHouse x = wrapped("wrap a.m 50 after arg * 2; wrap a.m 7 after arg + 1; wrap b.m 50 after arg - 3; wrap a.m 99 after arg * 5; wrap a.m 0 after arg + 10;");
        // 11: *5: 55; -3: 52; *2: 104; +1: 105; +10: 115.
        Desk.due("afters", x.call(0, 0, 0, 1), 115);
        Desk.did(x, row(4, 0, 1), row(2, 3, 11), row(2, 2, 55), row(2, 0, 52), row(2, 1, 104), row(2, 4, 105));
        WiringHouse y = wrapped("wrap a.m 2 after arg + fail 6; wrap a.m 3 after arg + 1; wrap a.m 1 after arg;");
        Desk.callFails(y, 0, 0, "m", 6);
        Desk.did(y, row(4, 0, 1), row(2, 1, 11), row(2, 0, 12));
    }

    private static void failings() {
        Desk.says("If all this fails: failings, by falling numbers (likewise), E with arg the failure's first kind: the first that doesn't fail answers");
        WiringHouse x = wrapped("wrap a.f 50 failing fail 1; wrap a.f 7 failing arg * 100; wrap b.f 50 failing fail 2; wrap a.f 99 failing fail 3; wrap a.f 0 failing 6;");
        Desk.due("7 answers", Desk.call(x, 0, 0, "f", 1), 400);
        Desk.due("outcome", x.outcome(), 0);
        Desk.due("cause", x.cause(0), 0);
        Desk.did(x, row(4, 0, 1), row(3, 3, 4), row(3, 2, 4), row(3, 0, 4), row(3, 1, 4));
        // What fails may be an around, a before, the METHOD, an after.
        for (String wrap : new String[] {"around go(arg) * 0 + fail 7", "around fail 7", "before fail 7", "after fail 7"}) {
            WiringHouse y = wrapped("wrap a.m 1 " + wrap + "; wrap a.m 1 failing arg + 1;");
            Desk.due(wrap, y.call(0, 0, 0, 1), 8);
        }
        // They are not asked when all is well, and what they answer is led through no after, no around.
        WiringHouse z = wrapped("wrap a.m 1 failing fail 1; wrap a.f 1 failing arg; wrap a.f 1 after fail 2; wrap a.f 1 around go(arg) + 1000;");
        Desk.due("all is well", z.call(0, 0, 0, 1), 11);
        Desk.did(z, row(4, 0, 1));
        Desk.due("the failing's answer", Desk.call(z, 0, 0, "f", 1), 4);
        // The first kind of a row is 20.
        WiringHouse v = Desk.ready("type a; type b; type c; component k is a house { need late b; method m of 0.m(1); } component l is b house { need c; } component n is c house { opened fail 2; } wrap a.m 1 failing fail 1; wrap a.m 0 failing arg;");
        v.get(0, 0);
        Desk.due("20", v.call(0, 0, 0, 0), 20);
        Desk.did(v, row(4, 0, 0), row(3, 0, 20), row(3, 1, 20));
        // A CALL that a failing answered goes on in what called it.
        WiringHouse w = Desk.ready("type a; type b; component k is a house { method m fail 3; } component l is b house { need a; method m of 0.m(1) + of 0.m(2); } wrap a.m 1 failing arg * 2;");
        Desk.due("twice", w.call(0, w.get(0, 1), 0, 0), 12);
    }

    private static void noneAnswers() {
        Desk.says("if none does the first failure goes on");
        WiringHouse x = wrapped("wrap a.f 1 failing fail 1; wrap a.f 2 failing 1 + fail 2; wrap a.n 1 failing fail 9;");
        Desk.callFails(x, 0, 0, "f", 4);
        Desk.did(x, row(4, 0, 1), row(3, 1, 4), row(3, 0, 4));
        Desk.callFails(x, 0, 0, "n", 11);
        WiringHouse y = Desk.ready("type a; type b; type c; component k is a house { need late b; method m of 0.m(1); } component l is b house { need c; } component n is c house { opened fail 2; } wrap a.m 1 failing fail 1;");
        y.get(0, 0);
        Desk.callFails(y, 0, 0, "m", 20, 2);
    }

    // ---- E's

    private static void worth(String e, int arg, int answer, int parts) {
        WiringHouse x = Desk.ready("setting s 5; type a; component c is a house { method m " + e + "; }");
        x.get(0, 0);
        Desk.due(e + " of " + arg, x.call(0, 0, 0, arg), answer);
        Desk.due(e + ": outcome", x.outcome(), 0);
        Desk.due(e + ": STEPS", x.count(10), parts + 1);
    }

    private static void numbersWrap() {
        Desk.says("numbers wrap");
        int min = Integer.MIN_VALUE;
        int max = Integer.MAX_VALUE;
        worth("arg+1", max, min, 2);
        worth("arg-1", min, max, 2);
        worth("-arg", min, min, 2);
        worth("0-arg", min, min, 2);
        worth("arg*2", 1 << 30, min, 2);
        worth("arg*arg", 65536, 0, 2);
        worth("arg*-1", min, min, 3);
        worth("999999999*999999999", 0, 999999999 * 999999999, 2);
        worth("999999999+999999999+999999999", 0, 999999999 * 3, 3);
        WiringHouse x = wrapped("wrap a.m 1 before arg + arg; wrap a.m 1 after arg * 1000;");
        Desk.due("in wraps", x.call(0, 0, 0, max), (-2 * 10 + 1) * 1000);
    }

    private static void comparisons() {
        Desk.says("<, = tell 1 or 0");
        int min = Integer.MIN_VALUE;
        worth("1<2", 0, 1, 2);
        worth("2<2", 0, 0, 2);
        worth("3<2", 0, 0, 2);
        worth("arg<0", min, 1, 2);
        worth("0<arg", min, 0, 2);
        worth("arg<arg-1", min, 1, 3);
        worth("arg-1<arg", min, 0, 3);
        worth("-arg<0", min, 1, 3);
        worth("2=2", 0, 1, 2);
        worth("1=2", 0, 0, 2);
        worth("0-1=-1", 0, 1, 4);
        worth("-arg=arg", min, 1, 3);
        worth("1+2<2*2", 0, 1, 4);
        worth("(1<2)+(3=3)*10", 0, 11, 7);
        worth("5-3-1", 0, 1, 3);
        worth("2+3*4-1*2", 0, 12, 5);
        worth("-2*-3", 0, 6, 4);
        worth("--arg", 7, 7, 3);
        worth("-(2-5)*2", 0, 6, 5);
    }

    private static void settings() {
        Desk.says("setting: its value");
        WiringHouse x = Desk.house("setting s 7; setting t 999999999; type a; component c is a house { method m setting s * 2 + setting t; } wrap a.m 1 after arg + setting s;");
        x.setting(0, Integer.MIN_VALUE);
        x.setting(1, -4);
        x.check();
        x.get(0, 0);
        Desk.due("as they are", x.call(0, 0, 0, 0), -4 + Integer.MIN_VALUE);
        worth("setting s", 0, 5, 1);
    }

    private static void picks() {
        Desk.says("pick: the first not 0: the second, else the third (the other is not worked out)");
        worth("pick(arg,10,20)", 1, 10, 3);
        worth("pick(arg,10,20)", -1, 10, 3);
        worth("pick(arg,10,20)", Integer.MIN_VALUE, 10, 3);
        worth("pick(arg,10,20)", 0, 20, 3);
        worth("pick(arg,10,fail 1)", 1, 10, 3);
        worth("pick(arg,fail 1,20)", 0, 20, 3);
        worth("pick(arg,1,2+3*4)", 9, 1, 3);
        worth("pick(arg,2+3*4,1)", 0, 1, 3);
        worth("pick(arg,1,2+3*4)", 0, 14, 5);
        worth("pick(1<2,pick(0,1,2),3)*10+arg", 4, 24, 8);
        WiringHouse x = Desk.ready("type a; component c is a house { method m pick(fail 2, fail 3, fail 4); method n pick(arg, fail 3, fail 4); }");
        x.get(0, 0);
        Desk.callFails(x, 0, 0, "m", 2);
        Desk.callFails(x, 0, 0, "n", 3);
        Desk.due("0", x.call(0, 0, 1, 0), 0);
        Desk.causes("0", x, 4);
    }

    private static void ofNeeds() {
        Desk.says("of N . METHOD ( E ): E, then a CALL");
        WiringHouse x = Desk.ready("type a; type b; component k is a house { method m arg * 2; } component l is b house { need a; need late a; method p of 0.m(of 0.m(arg) + 1); method q of 0.m(fail 2); method r of 0.x(fail 3); "
            + "method s of 1.m(fail 4); method t fail 5 + of 0.m(1); }");
        int l = x.get(0, 1);
        Desk.due("within one another", Desk.call(x, 0, l, "p", 3), 14);
        Desk.did(x, row(4, 0, 3), row(4, 1, 3), row(4, 1, 7));
        Desk.callFails(x, 0, l, "q", 2);
        Desk.due("STEPS: CALL, of, fail", x.count(10), 3);
        Desk.callFails(x, 0, l, "r", 3);
        Desk.callFails(x, 0, l, "s", 4);
        Desk.callFails(x, 0, l, "t", 5);
        Desk.due("STEPS: CALL, fail", x.count(10), 2);
        // The E's failure is ahead of the GET of a late need: nothing began.
        WiringHouse y = Desk.ready("type a; type b; component k is a house { method m 1; } component l is b house { need late a; method m of 0.m(fail 4); }");
        y.get(0, 1);
        Desk.callFails(y, 0, 0, "m", 4);
        Desk.due("one object", y.count(6), 1);
    }

    private static void scopeOfCalls() {
        Desk.says("in the scope of this one (in opened, closed: the object's PLACE)");
        WiringHouse x = Desk.ready("type a; type b; type m; component k is a house { need late m; method p of 0.q(arg); } component l is b house { need a; method p of 0.p(arg); } component e is m meal { method q arg + 1; }");
        x.day();
        x.meal(1);
        x.meal(1);
        int l = x.get(0, 1);
        Desk.callFails(x, 0, l, "p", 14);
        Desk.callFails(x, 1, l, "p", 14);
        Desk.due("in one meal", Desk.call(x, 2, l, "p", 4), 5);
        Desk.object(x, 2, 2, 2, 1);
        Desk.due("in the other", Desk.call(x, 3, l, "p", 4), 5);
        Desk.object(x, 3, 2, 3, 1);
        // A house's object that is got in a meal works opened and closed out in the house.
        WiringHouse y = Desk.ready("type a; type b; type d; component k is a house { need late d; opened of 0.q(1); } component l is b house { need late d; closed of 0.q(1); } component e is d day { method q 1; } "
            + "component n is b day rank 1 { need late d; opened of 0.q(1); closed of 0.q(1); }");
        y.day();
        y.meal(1);
        Desk.getFails(y, 2, 0, 14);
        int o = y.get(2, 1);
        int n = y.get(2, 3);
        Desk.object(y, 3, 2, 1, 1);
        Desk.closeEnds(y, 0, 3, 0);
        Desk.closed(y, row(n, 0), row(3, 0), row(o, 14));
        // Within a call in a meal, too: the late need is made in the house, where there is no day.
        WiringHouse z = Desk.ready("type a; type b; type d; component k is a house { need late b; method p of 0.p(1); } component l is b house { need late d; opened of 0.q(1); } component e is d day { method q 1; }");
        z.day();
        z.get(0, 0);
        Desk.callFails(z, 1, 0, "p", 14);
    }

    private static void ofAll() {
        Desk.says("of all: of each, by numbers, the answers' sum");
        WiringHouse x = Desk.ready("type a; type b; type z; component k0 is a house { method m arg; method n 1; } component k1 is a house { method m arg * 10; } component k2 is a new { method m arg * 100; method n 2; } "
            + "component l is b house { need all a; need all z; method p of 0.m(arg); method q of 1.m(arg); method r of 0.n(1); method s of 1.m(fail 7); }");
        Desk.due("l", x.get(0, 3), 0);
        Desk.due("the sum", Desk.call(x, 0, 0, "p", 3), 333);
        Desk.did(x, row(4, 0, 3), row(4, 1, 3), row(4, 2, 3), row(4, 3, 3));
        Desk.due("it wraps", Desk.call(x, 0, 0, "p", Integer.MAX_VALUE), Integer.MAX_VALUE * 111);
        Desk.due("of none", Desk.call(x, 0, 0, "q", 3), 0);
        Desk.due("outcome", x.outcome(), 0);
        Desk.due("STEPS: CALL, of, arg", x.count(10), 3);
        Desk.callFails(x, 0, 0, "s", 7);
        // Once more in one E, and within one another.
        WiringHouse y = Desk.ready("type a; type b; component k0 is a house { method m arg; } component k1 is a house { method m arg * 10; } component l is b house { need all a; need all a; "
            + "method p of 0.m(1) + of 1.m(2) * 100 + of 0.m(of 0.m(arg)); }");
        y.get(0, 2);
        Desk.due("three times", Desk.call(y, 0, 0, "p", 1), 11 + 2200 + 121);
        // The second has no n: it ends there, the third is not called.
        Desk.callFails(x, 0, 0, "r", 11);
        Desk.did(x, row(4, 0, 1), row(4, 1, 1));
    }

    private static void lateOnes() {
        Desk.says("a late one: its CANDIDATE is GOT in that scope");
        WiringHouse x = Desk.ready("type a; type b; component k is b house { need late a; method m of 0.m(arg); } component d is a day { method m arg + 1; } component e is a day rank 1 { method m arg + 2; }");
        x.day();
        x.day();
        Desk.due("k", x.get(0, 0), 0);
        Desk.due("one CANDIDATE by its rank", x.call(1, 0, 0, 1), 3);
        Desk.object(x, 1, 2, 1, 1);
        Desk.due("STEPS: CALL, of, arg, MAKING, CALL, arg, 2", x.count(10), 7);
        Desk.due("once more", x.call(1, 0, 0, 1), 3);
        Desk.due("STEPS: no MAKING", x.count(10), 6);
        Desk.due("in another day", x.call(2, 0, 0, 1), 3);
        Desk.object(x, 2, 2, 2, 1);
        Desk.due("not joined, as it is not NEW", x.joined(0, 0, 0), -1);
        x.close(1);
        x.day();
        Desk.due("in a third one", x.call(3, 0, 0, 1), 3);
        Desk.due("got anew", x.count(6), 4);
        // One that is not used is not made.
        WiringHouse y = Desk.ready("type a; type b; component k is b house { need late a; method m pick(arg, of 0.m(1), 5); } component l is a house { method m 1; }");
        y.get(0, 0);
        Desk.due("not used", y.call(0, 0, 0, 0), 5);
        Desk.due("one object", y.count(6), 1);
    }

    private static void lateNewOnes() {
        Desk.says("NEW: once for this object and need");
        WiringHouse x = Desk.ready("type a; type b; component n is a new { method m arg; } component k is b new { need late a; need late a; method p of 0.m(arg); method q of 1.m(arg); }");
        x.day();
        Desk.due("k", x.get(0, 1), 0);
        Desk.due("another", x.get(0, 1), 1);
        Desk.due("not yet", x.joined(0, 0, 0), -1);
        Desk.due("p", Desk.call(x, 1, 0, "p", 4), 4);
        Desk.due("q", Desk.call(x, 0, 0, "q", 5), 5);
        Desk.due("p of the other", Desk.call(x, 0, 1, "p", 6), 6);
        int[][] joined = {{2, 3}, {4, -1}};
        for (int o = 0; o < 2; o++) {
            for (int need = 0; need < 2; need++) {
                Desk.due("joined(" + o + ", " + need + ", 0)", x.joined(o, need, 0), joined[o][need]);
                Desk.due("joined(" + o + ", " + need + ", 1)", x.joined(o, need, 1), -1);
            }
        }
        Desk.object(x, 2, 0, 1, 1);
        Desk.object(x, 3, 0, 0, 1);
        Desk.due("p once more, in another scope", Desk.call(x, 0, 0, "p", 4), 4);
        Desk.due("the same one", x.did(1, 1), 2);
        Desk.due("no more objects", x.count(6), 5);
        Desk.due("STEPS: CALL, of, arg, CALL, arg", x.count(10), 5);
        // One whose making fails is not joined, and is made anew at the next use.
        WiringHouse y = Desk.ready("type a; type b; type d; component n is a new { need late d; opened of 0.m(1); method m arg; } component e is d day { method m 1; } component k is b house { need late a; method p of 0.m(arg); }");
        y.day();
        y.get(0, 2);
        Desk.callFails(y, 0, 0, "p", 14);
        Desk.due("not joined", y.joined(0, 0, 0), -1);
        Desk.due("in the day", Desk.call(y, 1, 0, "p", 3), 3);
        Desk.due("joined", y.joined(0, 0, 0), 2);
        // One that went stays joined: 17, no new one.
        y.close(1);
        Desk.callFails(y, 0, 0, "p", 17);
        Desk.due("joined", y.joined(0, 0, 0), 2);
    }

    private static void endsFirst() {
        Desk.says("it is joined to that whose making ends first; a use that makes another one meanwhile goes to this other one");
        // k's p makes n (1), whose opened gets g (2), whose opened uses p of k: that makes n (3), whose opened finds g under way.
        WiringHouse x = Desk.ready("type a; type b; type c; component k is a house { need late b; method p of 0.m(arg); } component n is b new { need late c; opened of 0.r(1); method m arg + 1; } "
            + "component g is c house { need late a; opened of 0.p(100); method r 1; } wrap c.r 1 failing 1;");
        x.get(0, 0);
        // A failing of r does not take a GET's failure: none is made.
        Desk.callFails(x, 0, 0, "p", 12);
        Desk.due("none is joined", x.joined(0, 0, 0), -1);
        WiringHouse y = Desk.ready("type a; type b; component k is a house { need late b; method p of 0.m(arg); } component n is b new { need a; opened of 0.p(7); method m arg * 10; } wrap a.p 1 failing 5;");
        y.get(0, 0);
        Desk.due("the outer use goes to the one that it made", Desk.call(y, 0, 0, "p", 2), 20);
        // n 1 to n 5 begin in GETS that are the 2nd, 4th, 6th, 8th and 10th; n 5's p would be the 11th: it goes, and the 9th CALL's failing answers.
        Desk.did(y, row(4, 0, 2), row(4, 0, 7), row(4, 0, 7), row(4, 0, 7), row(4, 0, 7), row(3, 0, 13), row(4, 4, 7), row(4, 3, 7), row(4, 2, 7), row(4, 1, 2));
        Desk.due("joined to that whose making ended first", y.joined(0, 0, 0), 4);
        Desk.due("to no other", y.joined(0, 0, 1), -1);
        for (int o = 1; o <= 5; o++) {
            Desk.object(y, o, 1, 0, o == 5 ? 2 : 1);
        }
        Desk.due("from now on all go to it", Desk.call(y, 0, 0, "p", 3), 30);
        Desk.did(y, row(4, 0, 3), row(4, 4, 3));
    }

    // ---- STEPS

    private static void stepsOfEach() {
        Desk.says("STEPS: each PART as it is worked out (ahead of what is in it), each CALL, each MAKING");
        worth("1", 0, 1, 1);
        worth("arg", 0, 0, 1);
        worth("(1)", 0, 1, 2);
        worth("-1", 0, -1, 2);
        worth("setting s", 0, 5, 1);
        worth("pick(1,2,3)", 0, 2, 3);
        worth("1+2*3<4-5", 0, 0, 5);
        WiringHouse x = Desk.ready("type a; type b; component k is a house { opened 1; method m arg; closed 1 + 1; } component l is b house { need a; need late a; opened 1 - 1; method m of 0.m(1); method n of 1.m(2); } "
            + "wrap b.n 1 around go(arg); wrap b.n 1 before 1; wrap b.n 1 after (1); wrap a.x 1 failing 1 + 1 + 1;");
        x.get(0, 1);
        Desk.due("two MAKINGS with three PARTS", x.count(10), 5);
        Desk.call(x, 0, 0, "m", 0);
        Desk.due("CALL, of, 1, CALL, arg", x.count(10), 5);
        Desk.call(x, 0, 0, "n", 0);
        Desk.due("CALL, go, arg, 1, of, 2, CALL, arg, (, 1", x.count(10), 10);
        Desk.call(x, 0, 1, "x", 0);
        Desk.due("CALL, and the failing's three", x.count(10), 4);
        x.close(0);
        Desk.due("1 + 1", x.count(10), 2);
        Desk.due("in all", x.count(9), 5 + 5 + 10 + 4 + 2);
        Desk.callEnds(x, 0, 9, 0, 4);
        Desk.due("a refused call", x.count(10), 0);
        Desk.due("in all", x.count(9), 26);
    }

    /** x, whose METHOD p takes 100 STEPS with its CALL, and y, whose METHOD m takes 2,959 with its CALL ahead of a rest. */
    private static String dear(String rest) {
        return "type w; type v; type n; component x is w house { method p " + "1+".repeat(98) + "1; } component y is v house { need w; need late n; method m " + "of 0.p(1)+".repeat(29) + rest + "; } ";
    }

    private static final String LEAF = "component z is n new { method q 1; } ";

    private static String ones(int n) {
        return "1+".repeat(n - 1) + "1";
    }

    /** A house in which object 0 is y, and object 1 is x. */
    private static WiringHouse spender(String rest, String more) {
        WiringHouse x = Desk.ready(dear(rest) + more);
        Desk.due("y", x.get(0, 1), 0);
        return x;
    }

    private static void spent(WiringHouse x, String method) {
        Desk.due("call", Desk.call(x, 0, 0, method, 1), 0);
        Desk.due("outcome", x.outcome(), 6);
        Desk.due("cause", x.cause(0), 0);
        Desk.due("STEPS", x.count(10), 3000);
    }

    private static void aheadOfWhatIsIn() {
        Desk.says("each PART as it is worked out (ahead of what is in it)");
        // With one STEP left the outer PART takes it, and what is in it does not begin.
        for (String part : new String[] {"-fail 1", "(fail 1)", "pick(fail 1,1,1)", "of 0.p(fail 1)"}) {
            WiringHouse x = spender(ones(40) + "+" + part, LEAF);
            spent(x, "m");
            WiringHouse y = spender(ones(39) + "+" + part, LEAF);
            Desk.callFails(y, 0, 0, "m", 1);
            Desk.due(part + ": STEPS", y.count(10), 3000);
        }
    }

    private static void threeThousand() {
        Desk.says("Where one more than 3,000 in one call of this class .. would begin all ends, SPENT");
        WiringHouse x = spender(ones(41), LEAF);
        Desk.due("3,000", Desk.call(x, 0, 0, "m", 1), 29 * 99 + 41);
        Desk.due("outcome", x.outcome(), 0);
        Desk.due("STEPS", x.count(10), 3000);
        // A PART, a CALL, a MAKING as the 3,001st.
        WiringHouse y = spender(ones(42), LEAF + "wrap v.m 1 failing 1; wrap w.p 1 failing 1;");
        spent(y, "m");
        Desk.due("the next call has 3,000 again", Desk.call(y, 0, 1, "p", 1), 99);
        WiringHouse z = spender(ones(39) + "+of 0.p(1)", LEAF);
        spent(z, "m");
        Desk.due("29 CALLS of p were noted", z.did(29, 1), 1);
        Desk.due("the 30th was not", z.did(30, 0), -1);
        WiringHouse v = spender(ones(39) + "+of 1.q(1)", LEAF);
        spent(v, "m");
        Desk.due("no MAKING began", v.count(6), 2);
        WiringHouse w = spender(ones(38) + "+of 1.q(1)", LEAF);
        spent(w, "m");
        Desk.due("the MAKING was the 3,000th", w.count(6), 3);
        Desk.due("it is made", w.object(2, 2), 1);
        Desk.due("it is joined", w.joined(0, 1, 0), 2);
        // What fails in the 3,000th is a failure; a failing, then, would begin the 3,001st.
        WiringHouse u = spender(ones(40) + "+fail 6", LEAF + "wrap v.n 1 failing 1;");
        Desk.callFails(u, 0, 0, "m", 6);
        Desk.due("STEPS", u.count(10), 3000);
        WiringHouse t = spender(ones(40) + "+fail 6", LEAF + "wrap v.m 1 failing 1;");
        spent(t, "m");
        // A get() likewise: opened that takes 2,999 behind the MAKING, or 3,000.
        for (int more = 0; more < 2; more++) {
            WiringHouse g = Desk.ready(dear("1") + LEAF + "type g; component h is g house { need w; opened " + "of 0.p(1)+".repeat(29) + ones(41 + more) + "; }");
            g.get(0, 0);
            if (more == 0) {
                Desk.due("get", g.get(0, 3), 1);
                Desk.due("outcome", g.outcome(), 0);
            } else {
                Desk.getEnds(g, 0, 3, 6);
            }
            Desk.due("STEPS", g.count(10), 3000);
        }
    }

    private static void sixtyThousand() {
        Desk.says("or than 60,000 in all, would begin all ends, SPENT");
        String text = dear(ones(41)).replace("method m", "method o 1+1; method m") + "component z is n new { method q 1; closed 1; } ";
        WiringHouse x = Desk.ready(text);
        x.get(0, 1);
        Desk.due("a new one", x.get(0, 2), 2);
        for (int i = 0; i < 19; i++) {
            Desk.call(x, 0, 0, "m", 1);
            Desk.due("outcome", x.outcome(), 0);
        }
        Desk.due("in all", x.count(9), 57003);
        for (int i = 0; i < 29; i++) {
            Desk.call(x, 0, 1, "p", 1);
        }
        for (int i = 0; i < 32; i++) {
            Desk.due("o", Desk.call(x, 0, 0, "o", 1), 2);
        }
        Desk.due("in all", x.count(9), 59999);
        // One is left: a MAKING takes it, or a CALL without what is in it.
        Desk.due("CALL", Desk.call(x, 0, 0, "o", 1), 0);
        Desk.due("outcome", x.outcome(), 6);
        Desk.due("STEPS", x.count(10), 1);
        Desk.due("in all", x.count(9), 60000);
        Desk.callEnds(x, 0, 0, 0, 6);
        Desk.due("STEPS", x.count(10), 0);
        Desk.getEnds(x, 0, 2, 6);
        Desk.due("no object began", x.count(6), 3);
        Desk.due("one that is there is got", x.get(0, 0), 1);
        Desk.due("outcome", x.outcome(), 0);
        // What has no closed is closed without a STEP.
        Desk.closeEnds(x, 0, -1, 6);
        Desk.closed(x, row(2, 18), row(0, 0), row(1, 0));
        Desk.due("in all", x.count(9), 60000);
        Desk.says("only STEPS in all stay counted");
        Desk.due("a new book", Desk.book(x, text), 0);
        x.check();
        Desk.due("in all", x.count(9), 60000);
        Desk.getEnds(x, 0, 0, 6);
    }

    private static void spentMakings() {
        Desk.says("all ends, SPENT: objects that are not made go");
        String spend = "of 0.p(1)+".repeat(30) + "1";
        WiringHouse x = Desk.ready(dear("1") + LEAF + "type a; type b; type c; component k is a day { need c; need b; closed 1; } component l is b day { need w; need late n; opened of 1.q(1) + " + spend + "; } component o is c day { closed 1; } wrap w.p 1 failing 1;");
        x.day();
        x.get(0, 0);
        // Begun: x 0, k 1, o 2, l 3, z 4.
        Desk.getEnds(x, 1, 3, 6);
        int[] states = {1, 2, 1, 2, 1};
        for (int o = 0; o < states.length; o++) {
            Desk.due("object " + o, x.object(o, 2), states[o]);
        }
        Desk.closed(x);
        Desk.due("none is spoiled", x.spoiled(1, 3) + x.spoiled(1, 4) + x.spoiled(1, 5), 0);
        Desk.due("o is there", x.get(1, 5), 2);
        // They may be made anew: nothing is under way.
        Desk.getEnds(x, 1, 4, 6);
        Desk.due("another one began", x.count(6), 7);
        Desk.due("close", x.close(1), 3);
    }

    // ---- TO CLOSE

    private static void closing() {
        Desk.says("TO CLOSE an object: closed, if it has that, is worked out with arg 0, in its PLACE (a failure is noted with it .. and ends that alone); then it goes");
        WiringHouse x = Desk.ready("type a; type b; type c; component k is a house { method m arg; closed pick(arg, fail 1, fail 2); } component l is b house { need a; closed of 0.m(5) + fail 3 + of 0.x(1); } component m is c house { need b; } "
            + "component n is c house { need a; closed of 0.x(1); }");
        x.get(0, 2);
        x.get(0, 3);
        Desk.closeEnds(x, 0, 4, 0);
        Desk.closed(x, row(3, 11), row(0, 0), row(1, 3), row(2, 2));
        for (int o = 0; o < 4; o++) {
            Desk.due("object " + o + " went", x.object(o, 2), 2);
        }
        Desk.due("a failure of a closing is no cause", x.cause(0), 0);
        // While it is closed it is there: its own late need finds it.
        WiringHouse y = Desk.ready("type a; type b; component k is a house { need late b; method m 4; closed of 0.m(1); } component l is b house { need late a; method m of 0.m(1) - 4 + fail 6; }");
        y.get(0, 0);
        Desk.closeEnds(y, 0, 2, 0);
        Desk.closed(y, row(0, 6), row(1, 0));
    }

    private static void closingSpent() {
        Desk.says("(.. SPENT with 18, and ends that alone); then it goes");
        String spend = "of 0.p(1)+".repeat(30) + "1";
        WiringHouse x = Desk.ready(dear("1") + LEAF + "type a; type b; type c; component k is a house { closed 1; } component l is b house { need w; closed " + spend + "; } component o is c house { closed fail 2; } component r is c house {}");
        for (int c : new int[] {0, 3, 4, 5, 6}) {
            x.get(0, c);
        }
        Desk.closeEnds(x, 0, -1, 6);
        Desk.closed(x, row(4, 0), row(3, 2), row(2, 18), row(1, 18), row(0, 0));
        Desk.due("all went", x.count(7), 0);
        Desk.due("STEPS", x.count(10), 3000);
    }

    private static void went() {
        Desk.says("What is joined to one that went: a CALL fails: 17");
        WiringHouse x = Desk.ready("type a; type b; type c; component n is a new { method m arg; } component h is c house { method m arg; } component k is b house { need late a; need all c; method p of 0.m(arg); method q of 0.x(arg); closed of 0.m(1); } "
            + "wrap a.m 1 failing 1; wrap b.p 1 failing arg;");
        x.day();
        x.get(0, 2);
        Desk.due("p", Desk.call(x, 1, 0, "p", 6), 6);
        x.close(1);
        Desk.due("p, of one that went: its own failing answers", Desk.call(x, 0, 0, "p", 6), 17);
        Desk.did(x, row(4, 0, 6), row(3, 1, 17));
        Desk.callFails(x, 0, 0, "q", 17);
        Desk.closeEnds(x, 0, 2, 0);
        Desk.closed(x, row(2, 0), row(0, 17), row(1, 0));
        // Those that outlive what they are joined to: one kept by a late need, while what it needs is undone.
        WiringHouse y = Desk.ready("type a; type b; type c; component k is a house { need b; need late c; opened of 1.m(1) + fail 1; } component l is b house { method m arg; } component m is c house { need b; need all b; method m of 0.m(1); method s of 1.m(1); }");
        Desk.getFails(y, 0, 0, 1);
        Desk.closed(y, row(1, 0));
        Desk.due("m", y.get(0, 2), 2);
        Desk.callFails(y, 0, 2, "m", 17);
        Desk.due("STEPS: CALL, of, 1, CALL", y.count(10), 4);
        Desk.callFails(y, 0, 2, "s", 17);
        Desk.due("another l", y.get(0, 1), 3);
        Desk.callFails(y, 0, 2, "m", 17);
        Desk.due("joined to the first", y.joined(2, 0, 0), 1);
    }
}
