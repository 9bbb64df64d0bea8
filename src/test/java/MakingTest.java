/** Promises 11 to 13, 16 to 19 and 21: day, meal, get, outcome, cause, object, joined, spoiled. */
final class MakingTest {
    private MakingTest() {
    }

    public static void main(String[] args) {
        scopes();
        places();
        order();
        newOnes();
        spoiling();
        passing();
        undoing();
        lateNeeds();
        lateNew();
        deep();
        tooMany();
        refusals();
        spent();
        Desk.finish("MakingTest");
    }

    private static void object(WiringHouse x, int o, int component, int place, int state) {
        Desk.due("component of object " + o, Desk.object(x, o, 0), component);
        Desk.due("place of object " + o, Desk.object(x, o, 1), place);
        Desk.due("state of object " + o, Desk.object(x, o, 2), state);
    }

    private static void scopes() {
        WiringHouse x = Desk.house("type a;");
        Desk.due("a day ahead of READY", x.day(), -1);
        Desk.due("a meal ahead of READY", x.meal(0), -1);
        x.check();
        Desk.due("a meal of the house", x.meal(0), -1);
        Desk.due("a day", x.day(), 1);
        Desk.due("a meal", x.meal(1), 2);
        Desk.due("a meal of a meal", x.meal(2), -1);
        Desk.due("a meal of no scope", x.meal(3), -1);
        Desk.due("a meal of no scope", x.meal(-1), -1);
        Desk.due("a day", x.day(), 3);
        Desk.due("open", x.count(5), 4);
        Desk.due("close", x.close(1), 0);
        Desk.due("open", x.count(5), 2);
        Desk.due("a meal of a closed day", x.meal(1), -1);
        for (int s = 4; s < 39; s++) {
            Desk.due("scope", x.meal(3), s);
        }
        Desk.due("the 40th", x.day(), 39);
        Desk.due("the 41st", x.day(), -1);
        Desk.due("the 41st", x.meal(39), -1);
        Desk.due("no 41st", x.close(40), -1);
        Desk.due("outcome", x.outcome(), 3);
        Desk.due("no 41st", x.spoiled(40, 0), -1);
        x.close(0);
        Desk.due("closed ones are there, too", x.day(), -1);
        Desk.due("the house's is open", x.count(5), 1);
    }

    private static void places() {
        WiringHouse x = Desk.ready("type a; component h is a house {} component d is a day {} component m is a meal {} component n is a new {}");
        x.day();
        x.meal(1);
        int[][] due = {{0, -1, -1, 0}, {0, 1, -1, 1}, {0, 1, 2, 2}};
        for (int scope = 0; scope < 3; scope++) {
            for (int c = 0; c < 4; c++) {
                int o = x.get(scope, c);
                if (due[scope][c] < 0) {
                    Desk.due("get without a place", o, -1);
                    Desk.causes("get without a place", x, 14);
                    Desk.due("not spoiled without a place", x.spoiled(scope, c), 0);
                } else {
                    Desk.due("outcome", x.outcome(), 0);
                    Desk.due("cause", x.cause(0), 0);
                    Desk.due("place", Desk.object(x, o, 1), due[scope][c]);
                    Desk.due("component", Desk.object(x, o, 0), c);
                }
            }
        }
        Desk.due("objects", x.count(6), 6);
        Desk.due("the house's once more", x.get(2, 0), 0);
        Desk.due("the day's from the meal", x.get(2, 1), x.get(1, 1));
        x.day();
        Desk.due("another day's", x.get(3, 1), 6);
    }

    private static void order() {
        WiringHouse x = Desk.ready("type a; type b; type z; component k is a house { need b; } component l is b house {} component m is a new {} "
            + "component c is z day { need late a called w; need all a; need b; } component f is a house called w {}");
        x.day();
        Desk.due("get", x.get(1, 3), 0);
        object(x, 0, 3, 1, 1);
        object(x, 1, 0, 0, 1);
        object(x, 2, 1, 0, 1);
        object(x, 3, 2, 1, 1);
        object(x, 4, 4, 0, 1);
        int[][] joined = {{}, {1, 3, 4}, {2}};
        for (int need = 0; need < 3; need++) {
            for (int i = -1; i <= joined[need].length; i++) {
                Desk.due("joined(0, " + need + ", " + i + ")", x.joined(0, need, i), i >= 0 && i < joined[need].length ? joined[need][i] : -1);
            }
        }
        Desk.due("joined(1, 0, 0)", x.joined(1, 0, 0), 2);
        Desk.due("no such need", x.joined(0, 3, 0), -1);
        Desk.due("no such need", x.joined(0, -1, 0), -1);
        Desk.due("no such need", x.joined(0, 8, 0), -1);
        Desk.due("no such object", x.joined(5, 0, 0), -1);
        Desk.due("no such object", x.joined(-1, 0, 0), -1);
        Desk.due("a great i", x.joined(0, 1, Integer.MAX_VALUE), -1);
        Desk.due("object(5)", Desk.object(x, 5, 0), Desk.THROWN);
        Desk.due("object(-1)", Desk.object(x, -1, 0), Desk.THROWN);
        Desk.due("object(0, 3)", Desk.object(x, 0, 3), Desk.THROWN);
        Desk.due("object(0, -1)", Desk.object(x, 0, -1), Desk.THROWN);
        Desk.due("steps are makings", x.count(10), 5);
        Desk.due("get once more", x.get(1, 3), 0);
        Desk.due("no steps", x.count(10), 0);
        // The latest made goes first: f, n of all, then b and a.
        Desk.due("close", x.close(1), 2);
        Desk.due("the needing one ended last", x.closed(0, 0), 0);
        Desk.due("then the new one", x.closed(1, 0), 3);
        Desk.due("joined is told of one that went, too", x.joined(0, 1, 1), 3);
    }

    private static void newOnes() {
        WiringHouse x = Desk.ready("type a; type b; component n is a new { opened fail 4; } component m is b new {} component c is b house rank 1 { need a; }");
        Desk.due("new", x.get(0, 1), 0);
        Desk.due("new again", x.get(0, 1), 1);
        Desk.due("a new one that fails", x.get(0, 0), -1);
        Desk.causes("a new one that fails", x, 4);
        Desk.due("it is not spoiled", x.spoiled(0, 0), 0);
        Desk.due("again", x.get(0, 0), -1);
        Desk.causes("again", x, 4);
        Desk.due("what needs it", x.get(0, 2), -1);
        Desk.causes("what needs it", x, 20, 4);
        Desk.due("that is spoiled", x.spoiled(0, 2), 1);
        object(x, 4, 2, 0, 2);
        object(x, 5, 0, 0, 2);
    }

    private static void spoiling() {
        WiringHouse x = Desk.ready("type a; type b; type c; component k is a day { opened 1 + fail 7; } component l is b day { need a; } component m is c meal { need b; }");
        x.day();
        x.meal(1);
        x.day();
        Desk.due("get", x.get(2, 2), -1);
        Desk.causes("get", x, 20, 20, 7);
        Desk.due("cause(-1)", x.cause(-1), 0);
        Desk.due("cause(9)", x.cause(9), 0);
        for (int c = 0; c < 3; c++) {
            Desk.due("spoiled from the meal", x.spoiled(2, c), 1);
            Desk.due("in its day", x.spoiled(1, c), c == 2 ? 0 : 1);
            Desk.due("not in another day", x.spoiled(3, c), 0);
            Desk.due("no place in the house", x.spoiled(0, c), 0);
        }
        Desk.due("get once more", x.get(2, 2), -1);
        Desk.causes("get once more", x, 15);
        Desk.due("get of what it needs", x.get(1, 1), -1);
        Desk.causes("get of what it needs", x, 15);
        Desk.due("in another day", x.get(3, 1), -1);
        Desk.causes("in another day", x, 20, 7);
        Desk.due("no such component", x.spoiled(1, 3), -1);
        Desk.due("no such component", x.spoiled(1, -1), -1);
        Desk.due("no such scope", x.spoiled(4, 0), -1);
        Desk.due("no such scope", x.spoiled(-1, 0), -1);
        x.close(2);
        Desk.due("a closed scope", x.spoiled(2, 0), -1);
        Desk.due("a meal", x.meal(1), 4);
        Desk.due("not spoiled in a new meal", x.spoiled(4, 2), 0);
        Desk.due("its day's is", x.spoiled(4, 1), 1);
        Desk.due("get in the new meal", x.get(4, 2), -1);
        Desk.causes("get in the new meal", x, 20, 15);
        Desk.due("a failure 15 spoils, too", x.spoiled(4, 2), 1);
    }

    private static void passing() {
        // A late need that comes back to what is being made: 12 spoils nothing.
        WiringHouse x = Desk.ready("type a; type b; component k is a house { need b; } component l is b house { need late a; opened of 0.m(1); method m 1; }");
        Desk.due("get", x.get(0, 0), -1);
        Desk.causes("get", x, 20, 12);
        Desk.due("not spoiled", x.spoiled(0, 0) + x.spoiled(0, 1), 0);
        object(x, 0, 0, 0, 2);
        object(x, 1, 1, 0, 2);
        Desk.due("from the other side", x.get(0, 1), -1);
        Desk.causes("from the other side", x, 20, 12);
        // 13: eleven within one another.
        WiringHouse y = Desk.ready("type a; component k is a house { need late a; method m of 0.m(arg + 1); }");
        Desk.due("get", y.get(0, 0), 0);
        Desk.due("call", y.call(0, 0, 0, 0), 0);
        Desk.causes("call", y, 13);
        Desk.due("METHODS that were begun", y.did(9, 2), 9);
        Desk.due("no eleventh", y.did(10, 0), -1);
        // Each level: the CALL, of, arg + 1; the eleventh is a GET, which is no STEP.
        Desk.due("steps", y.count(10), 40);
        WiringHouse z = Desk.ready("type a; component k is a day { opened 1; method m arg; } type b; component l is b new { need late b; opened of 0.m(1); method m 1; }");
        Desk.due("makings within one another", z.get(0, 1), -1);
        Desk.causes("makings within one another", z, 13);
        Desk.due("one at the top, ten for late needs", z.count(6), 11);
        Desk.due("steps of them: making, of, 1", z.count(10), 33);
    }

    private static void undoing() {
        WiringHouse x = Desk.ready("type a; type b; type c; type d; type e; "
            + "component k is a house { closed 1; } component l is b house { need a; closed fail 6; } component n is c new {} "
            + "component f is d house { need c; need b; opened fail 3; } component t is e house { need a; }");
        Desk.due("get", x.get(0, 3), -1);
        Desk.causes("get", x, 3);
        object(x, 0, 3, 0, 2);
        int[][] closed = {{2, 6}, {3, 0}, {1, 0}};
        for (int i = 0; i < 3; i++) {
            Desk.due("closed(" + i + ", 0)", x.closed(i, 0), closed[i][0]);
            Desk.due("closed(" + i + ", 1)", x.closed(i, 1), closed[i][1]);
        }
        Desk.due("no more", x.closed(3, 0), -1);
        Desk.due("none is there", x.count(7), 0);
        Desk.due("what was undone is not spoiled", x.spoiled(0, 0) + x.spoiled(0, 1) + x.spoiled(0, 2), 0);
        Desk.due("what was made ahead", x.get(0, 4), 4);
        Desk.due("fails again", x.get(0, 3), -1);
        Desk.causes("fails again", x, 15);
        Desk.due("close", x.close(0), 2);
        Desk.due("get", x.get(0, 0), 6);
        Desk.due("it fails", x.get(0, 3), -1);
        Desk.causes("it fails", x, 3);
        Desk.due("one that was there ahead stays", Desk.object(x, 6, 2), 1);
        Desk.due("the others went", x.count(7), 1);
        Desk.due("the steps: three makings, fail, and fail in closing", x.count(10), 5);
    }

    private static void lateNeeds() {
        // What was made for a late need that was well stays, though what used it fails.
        String text = "type a; type b; type c; component k is a house { method m arg * 2; } component f is b house { need late a; need c; opened of 0.m(3) * fail 2; }"
            + "component n is c house {}";
        WiringHouse x = Desk.ready(text);
        Desk.due("get", x.get(0, 1), -1);
        Desk.causes("get", x, 2);
        object(x, 0, 1, 0, 2);
        object(x, 1, 2, 0, 2);
        object(x, 2, 0, 0, 1);
        Desk.due("a late need is joined to nothing", x.joined(0, 0, 0), -1);
        // A call's late need that fails is undone, and the call fails with its kinds.
        WiringHouse y = Desk.ready("type a; type b; type c; component k is a house { need late b; method m of 0.m(1); method n arg; }"
            + "component f is b house { need c; need a; opened fail 5; } component n is c house {}");
        Desk.due("get", y.get(0, 0), 0);
        Desk.due("call", y.call(0, 0, 0, 0), 0);
        Desk.causes("call", y, 5);
        Desk.due("undone", y.closed(0, 0), 2);
        object(y, 2, 2, 0, 2);
        object(y, 0, 0, 0, 1);
        Desk.due("spoiled", y.spoiled(0, 1), 1);
        Desk.due("call once more", y.call(0, 0, 0, 0), 0);
        Desk.causes("call once more", y, 15);
        // A late need is GOT in the scope of the call.
        WiringHouse z = Desk.ready("type a; type b; component k is a house { need late b; method m of 0.n(arg); } component d is b day { method n arg + 1; }");
        z.day();
        z.meal(1);
        z.day();
        Desk.due("get", z.get(0, 0), 0);
        Desk.due("a call in the house", z.call(0, 0, 0, 1), 0);
        Desk.causes("a call in the house", z, 14);
        Desk.due("a call in a meal", z.call(2, 0, 0, 1), 2);
        object(z, 1, 1, 1, 1);
        Desk.due("a call in another day", z.call(3, 0, 0, 5), 6);
        object(z, 2, 1, 3, 1);
        Desk.due("a call in the meal again", z.call(2, 0, 0, 1), 2);
        Desk.due("no more objects", z.count(6), 3);
    }

    private static void lateNew() {
        WiringHouse x = Desk.ready("type a; type b; component k is a house { need late b; method m of 0.n(arg); } component n is b new { method n arg + 1; }");
        x.day();
        Desk.due("get", x.get(0, 0), 0);
        Desk.due("not used yet", x.joined(0, 0, 0), -1);
        Desk.due("used", x.call(1, 0, 0, 4), 5);
        Desk.due("joined", x.joined(0, 0, 0), 1);
        object(x, 1, 1, 1, 1);
        Desk.due("used again", x.call(0, 0, 0, 4), 5);
        Desk.due("the same one", x.count(6), 2);
        x.close(1);
        Desk.due("it went", x.call(0, 0, 0, 4), 0);
        Desk.causes("it went", x, 17);
        Desk.due("it is joined all the same", x.joined(0, 0, 0), 1);
        // The making of the late one uses the need itself, without an end.
        WiringHouse y = Desk.ready("type a; type b; component k is a house { need late b; method m of 0.n(arg); }"
            + "component n is b new { need a; opened of 0.m(7); method n arg; }");
        Desk.due("get", y.get(0, 0), 0);
        Desk.due("a late need without an end", y.call(0, 0, 0, 1), 0);
        Desk.causes("a late need without an end", y, 13);
        Desk.due("not joined", y.joined(0, 0, 0), -1);
        WiringHouse z = Desk.ready("type a; type b; type c; component k is a house { need late b; method m of 0.n(arg); } "
            + "component n is b new { need a; need late c; opened of 1.t(1) * 0 + pick(1, 1, 1); method n arg * 10; } "
            + "component o is c house { need a; opened of 0.m(7); method t arg; }");
        Desk.due("get", z.get(0, 0), 0);
        // n (1) is begun, its opened gets o (2), whose opened uses the need: n (3) is made, whose use of o meets 12.
        Desk.due("call", z.call(0, 0, 0, 1), 0);
        Desk.causes("call", z, 12);
        innerEndsFirst();
    }

    private static void innerEndsFirst() {
        // n's opened uses k's need once more, down to the eleventh level, whose failure a wrap takes for an answer.
        WiringHouse x = Desk.ready("type a; type b; component k is a house { need late b; method m of 0.n(arg); }"
            + "component n is b new { need a; opened of 0.m(7); method n arg * 10; } wrap a.m 1 failing 5;");
        Desk.due("get", x.get(0, 0), 0);
        Desk.due("call", x.call(0, 0, 0, 2), 20);
        Desk.due("joined to that whose making ended first", x.joined(0, 0, 0), 4);
        Desk.due("to no other", x.joined(0, 0, 1), -1);
        for (int o = 0; o <= 5; o++) {
            Desk.due("object " + o, Desk.object(x, o, 2), o == 5 ? 2 : 1);
        }
        int[][] did = {{4, 0, 2}, {4, 0, 7}, {4, 0, 7}, {4, 0, 7}, {4, 0, 7}, {3, 0, 13}, {4, 4, 7}, {4, 3, 7}, {4, 2, 7}, {4, 1, 2}};
        for (int i = 0; i < did.length; i++) {
            for (int what = 0; what < 3; what++) {
                Desk.due("did(" + i + ", " + what + ")", x.did(i, what), did[i][what]);
            }
        }
        Desk.due("no more", x.did(did.length, 0), -1);
        Desk.due("from now on it is that one", x.call(0, 0, 0, 3), 30);
        Desk.due("the object", x.did(1, 1), 4);
    }

    /** As deep as it goes: eleven levels of 24 makings, each waiting within eight PARTS. */
    private static void deep() {
        StringBuilder text = new StringBuilder(Desk.times(24, "type t#;"));
        for (int c = 0; c < 23; c++) {
            text.append("component c" + c + " is t" + c + " new{need t" + (c + 1) + ";method m 1;}");
        }
        String within = "1<1+1*(1<1+1*(1<1+1*(1<1+1*(1<1+1*(1<1+1*(1<1+1*of 0.m(1<1+1*arg)))))))";
        text.append("component c23 is t23 new{need late t0;opened " + within + ";}wrap t0.m 1 around " + within.replace("of 0.m", "go") + ";");
        WiringHouse x = Desk.ready(text.toString());
        Desk.due("get", x.get(0, 0), -1);
        Desk.due("outcome", x.outcome(), 1);
        Desk.due("objects", x.count(6), 264);
        Desk.due("made", x.count(7), 0);
        Desk.due("the last of the needs", x.cause(23 * 11 - 1), 20);
        Desk.due("the kind", x.cause(23 * 11), 13);
        Desk.due("behind it", x.cause(23 * 11 + 1), 0);
        Desk.due("steps: the makings, and 32 PARTS in each last one", x.count(10), 264 + 11 * 32);
    }

    private static void tooMany() {
        WiringHouse x = Desk.ready("type a; type b; type c; component n is a new {} component k is b house { need all a; need a; need a; need a; need a; need a; need a; need a; }"
            + "component h is c house { closed 1; } component g is c house rank 1 { need a; }");
        for (int i = 0; i < 36; i++) {
            Desk.due("get", x.get(0, 1), 9 * i);
            x.close(0);
            if (9 * i + 9 > 291) {
                break;
            }
        }
        Desk.due("objects", x.count(6), 297);
        Desk.due("get", x.get(0, 2), 297);
        Desk.due("get", x.get(0, 0), 298);
        Desk.due("the 300th needs a 301st", x.get(0, 3), -1);
        Desk.causes("the 300th needs a 301st", x, 20, 16);
        Desk.due("its makings are steps", x.count(10), 2);
        Desk.due("not spoiled", x.spoiled(0, 3), 0);
        object(x, 299, 3, 0, 2);
        Desk.due("the 301st", x.get(0, 0), -1);
        Desk.causes("the 301st", x, 16);
        Desk.due("what is there is got", x.get(0, 2), 297);
        Desk.due("objects", x.count(6), 300);
        Desk.due("made", x.count(7), 2);
        Desk.due("object(300)", Desk.object(x, 300, 0), Desk.THROWN);
        Desk.due("close", x.close(0), 2);
        Desk.due("the last of 299 closings", x.closed(298, 0), 297);
        Desk.due("the 300th was never made", x.closed(299, 0), -1);
    }

    private static void refusals() {
        WiringHouse x = Desk.house("setting s 1; type a; component c is a house {} component d is a house when s 2 {}");
        Desk.due("not READY", x.get(0, 0), -1);
        Desk.due("outcome", x.outcome(), 4);
        Desk.due("not READY, no scope", x.get(5, 0), -1);
        Desk.due("4 is ahead of 3", x.outcome(), 4);
        x.check();
        Desk.due("no scope", x.get(1, 0), -1);
        Desk.due("outcome", x.outcome(), 3);
        Desk.due("no scope", x.get(-1, 0), -1);
        Desk.due("outcome", x.outcome(), 3);
        Desk.due("no component", x.get(0, 2), -1);
        Desk.due("outcome", x.outcome(), 4);
        Desk.due("no component", x.get(0, -1), -1);
        Desk.due("outcome", x.outcome(), 4);
        Desk.due("not THERE", x.get(0, 1), -1);
        Desk.due("outcome", x.outcome(), 4);
        Desk.due("no cause", x.cause(0), 0);
        Desk.due("get", x.get(0, 0), 0);
        Desk.due("outcome", x.outcome(), 0);
        x.day();
        x.close(1);
        Desk.due("closed", x.get(1, 0), -1);
        Desk.due("outcome", x.outcome(), 3);
    }

    private static void spent() {
        String loop = "type a; type b; type c; component k is a house { method m 1+1+1+1+1+1+1+1+1+1; closed 2; } "
            + "component f is b house { need all a; need c; opened " + Desk.times(300, "of 0.m(1)+") + "1; } component n is c house {}";
        WiringHouse x = Desk.ready(loop);
        Desk.due("get", x.get(0, 1), -1);
        Desk.due("outcome", x.outcome(), 6);
        Desk.due("cause", x.cause(0), 0);
        Desk.due("steps", x.count(10), 3000);
        object(x, 0, 1, 0, 2);
        object(x, 1, 0, 0, 1);
        object(x, 2, 2, 0, 1);
        Desk.due("not spoiled", x.spoiled(0, 1), 0);
        Desk.due("nothing was closed", x.closed(0, 0), -1);
        for (int i = 0; i < 19; i++) {
            Desk.due("get", x.get(0, 1), -1);
            Desk.due("steps in all", x.count(9), 3000 * (i + 2));
        }
        Desk.due("60,000 in all", x.count(9), 60000);
        Desk.due("what is made is got", x.get(0, 0), 1);
        Desk.due("a making is SPENT", x.get(0, 1), -1);
        Desk.due("outcome", x.outcome(), 6);
        Desk.due("steps", x.count(10), 0);
        Desk.due("no object was begun", x.count(6), 22);
        Desk.due("a call is SPENT", x.call(0, 1, 0, 0), 0);
        Desk.due("outcome", x.outcome(), 6);
        Desk.due("a new book", Desk.book(x, loop), 0);
        x.check();
        Desk.due("SPENT in a new book, too", x.get(0, 0), -1);
        Desk.due("outcome", x.outcome(), 6);
        // A closing of what is undone that is SPENT: the others are closed, and all ends SPENT.
        String dear = Desk.times(200, "of 0.m(1)+") + "1";
        WiringHouse y = Desk.ready("type a; type b; type c; type d; component k is a house { method m 1+1+1+1+1+1+1+1+1+1+1+1; } "
            + "component l is b house { need a; closed " + dear + "; } component n is c house { need b; } component f is d house { need c; opened fail 1; }");
        Desk.due("get", y.get(0, 3), -1);
        Desk.due("outcome", y.outcome(), 6);
        Desk.due("cause", y.cause(0), 0);
        int[][] closed = {{1, 0}, {2, 18}, {3, 0}};
        for (int i = 0; i < 3; i++) {
            Desk.due("closed(" + i + ", 0)", y.closed(i, 0), closed[i][0]);
            Desk.due("closed(" + i + ", 1)", y.closed(i, 1), closed[i][1]);
        }
        Desk.due("it is spoiled", y.spoiled(0, 3), 1);
        Desk.due("get once more", y.get(0, 3), -1);
        Desk.causes("get once more", y, 15);
    }
}
