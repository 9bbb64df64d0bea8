/** Promises 15, 20 and 23: close, closed, count. */
final class CloseTest {
    private CloseTest() {
    }

    public static void main(String[] args) {
        order();
        failing();
        meanwhile();
        nested();
        spoils();
        spent();
        refusals();
        gone();
        counts();
        Desk.finish("CloseTest");
    }

    private static void closed(WiringHouse x, int[]... rows) {
        for (int i = 0; i < rows.length; i++) {
            Desk.due("closed(" + i + ", 0)", x.closed(i, 0), rows[i][0]);
            Desk.due("closed(" + i + ", 1)", x.closed(i, 1), rows[i][1]);
            Desk.due("closed(" + i + ", 2)", x.closed(i, 2), -1);
            Desk.due("closed(" + i + ", -1)", x.closed(i, -1), -1);
        }
        Desk.due("closed(-1, 0)", x.closed(-1, 0), -1);
        Desk.due("no more were closed", x.closed(rows.length, 0), -1);
    }

    private static int[] row(int... r) {
        return r;
    }

    private static void order() {
        WiringHouse x = Desk.ready("type a; type b; component h is a house { need b called w; } component i is b house called w {} component d is b day {} component m is b meal {} component n is b new {}");
        x.day();
        x.meal(1);
        x.day();
        x.meal(1);
        x.meal(3);
        x.get(0, 0);
        x.get(1, 2);
        x.get(2, 3);
        x.get(2, 4);
        x.get(3, 2);
        x.get(4, 3);
        x.get(5, 3);
        x.get(1, 4);
        // 0 h, 1 i, 2 d of 1, 3 m of 2, 4 n of 2, 5 d of 3, 6 m of 4, 7 m of 5, 8 n of 1.
        Desk.due("close all", x.close(0), 9);
        Desk.due("outcome", x.outcome(), 0);
        closed(x, row(7, 0), row(5, 0), row(6, 0), row(4, 0), row(3, 0), row(8, 0), row(2, 0), row(0, 0), row(1, 0));
        for (int s = 1; s <= 5; s++) {
            Desk.due("closed scope", x.close(s), -1);
            Desk.due("outcome", x.outcome(), 3);
        }
        Desk.due("the house's is open", x.count(5), 1);
        Desk.due("empty", x.count(7), 0);
        Desk.due("once more", x.close(0), 0);
        Desk.due("objects go on", x.get(0, 1), 9);
        Desk.due("scopes go on", x.day(), 6);
        Desk.due("a meal", x.meal(6), 7);
        x.get(7, 2);
        x.get(7, 3);
        Desk.due("close a day", x.close(6), 2);
        Desk.due("its meal went", x.get(7, 0), -1);
        Desk.due("outcome", x.outcome(), 3);
        Desk.due("its meal's object was ahead", x.closed(9, 0), 11);
        Desk.due("then the day's", x.closed(10, 0), 10);
        Desk.due("the house's stays", Desk.object(x, 9, 2), 1);
    }

    private static void failing() {
        WiringHouse x = Desk.ready("type a; type b; type c; component k is a house { method m arg; closed 1 + fail 7; } component l is b house { need a; closed of 0.n(1); } "
            + "component o is c house { need late b called w; closed of 0.m(1); } component p is b house called w { need c called v; } component q is c house called v { opened fail 2; }");
        x.get(0, 0);
        x.get(0, 1);
        x.get(0, 2);
        Desk.due("a cause ahead", x.get(0, 4), -1);
        Desk.causes("a cause ahead", x, 2);
        Desk.due("close", x.close(0), 3);
        Desk.due("outcome", x.outcome(), 0);
        Desk.due("close() leaves the cause", x.cause(0), 2);
        // q is spoiled: 20, 15; n is no METHOD of k: 11; k: 7.
        closed(x, row(2, 20), row(1, 11), row(0, 7));
        Desk.due("all went", x.count(7), 0);
    }

    private static void meanwhile() {
        WiringHouse x = Desk.ready("type a; type b; type c; component k is a house { need late b; closed of 0.m(1); } component l is b house { need late c; method m arg; closed of 0.m(2); } component n is c new { method m 1; }");
        Desk.due("get", x.get(0, 0), 0);
        // k's closing gets l (1), l's closing gets n (2): all are closed.
        Desk.due("close", x.close(0), 3);
        closed(x, row(0, 0), row(1, 0), row(2, 0));
        Desk.due("steps: of, 1, making, call, arg; the same; and 1", x.count(10), 10);
        // What is made in the house while a day is closed stays, but is closed with the house.
        WiringHouse y = Desk.ready("type a; type b; component k is a day { need late b; closed of 0.m(1); } component l is b house { method m arg; }");
        y.day();
        y.get(1, 0);
        Desk.due("close the day", y.close(1), 1);
        Desk.due("what was made stays", Desk.object(y, 1, 2), 1);
        y.day();
        y.close(0);
        Desk.due("get", y.get(0, 1), 2);
        y.close(0);
        Desk.due("a day", y.day(), 3);
        Desk.due("get", y.get(3, 0), 3);
        Desk.due("close all", y.close(0), 2);
        Desk.due("the last one", y.closed(4, 0), 4);
        // One that is made twice: the first is still there while it is closed.
        WiringHouse z = Desk.ready("type a; type b; component k is a house { need late b; closed of 0.m(1); method m arg; } component l is b house { need a; closed of 0.m(1); method m arg; }");
        z.get(0, 1);
        Desk.due("l, then k whose closing makes l again, with a k that is there, and so on", z.close(0), 3);
        closed(z, row(0, 0), row(1, 0), row(2, 17));
    }

    private static void nested() {
        // An undoing within a closing: those that are undone are noted as they went, ahead of the one being closed.
        WiringHouse x = Desk.ready("type a; type b; type c; component k is a house { need late b; closed of 0.m(1); } component l is b house { need c; opened fail 3; } component n is c house {}");
        x.get(0, 0);
        Desk.due("close", x.close(0), 1);
        closed(x, row(2, 0), row(0, 3));
        Desk.due("nothing is there", x.count(7), 0);
        Desk.due("l is not spoiled any more", x.spoiled(0, 1), 0);
    }

    private static void spoils() {
        WiringHouse x = Desk.ready("type a; component k is a house { opened fail 1; } component d is a day { opened fail 2; }");
        x.day();
        x.day();
        x.get(0, 0);
        x.get(1, 1);
        x.get(2, 1);
        Desk.due("spoiled", x.spoiled(0, 0) + x.spoiled(1, 1) + x.spoiled(2, 1), 3);
        Desk.due("close a day", x.close(1), 0);
        Desk.due("others stay spoiled", x.spoiled(0, 0) + x.spoiled(2, 1), 2);
        Desk.due("closed", x.spoiled(1, 1), -1);
        Desk.due("close the house", x.close(0), 0);
        Desk.due("not spoiled", x.spoiled(0, 0), 0);
        x.get(0, 0);
        Desk.causes("made anew", x, 1);
    }

    private static void spent() {
        WiringHouse x = Desk.ready("type a; type b; type c; component k is a house { closed 1; method m 1+1+1+1+1+1+1+1; } "
            + "component l is b house { need a; closed " + Desk.times(290, "of 0.m(1)+") + "1; } component n is c house { need b; closed 5; } component o is c house { need a; }");
        x.get(0, 2);
        x.get(0, 3);
        Desk.due("close", x.close(0), -1);
        Desk.due("outcome", x.outcome(), 6);
        // o ended last; n is closed with one step; l is spent; k's one step is one too many, too.
        closed(x, row(3, 0), row(0, 0), row(1, 18), row(2, 18));
        Desk.due("steps", x.count(10), 3000);
        Desk.due("all went", x.count(7), 0);
        Desk.due("the house is open", x.count(5), 1);
        Desk.due("get", x.get(0, 0), 4);
        Desk.due("steps anew", x.close(0), 1);
        Desk.due("outcome", x.outcome(), 0);
        Desk.due("closed", x.closed(4, 1), 0);
    }

    private static void refusals() {
        WiringHouse x = new WiringHouse();
        Desk.due("the house of a new object", x.close(0), 0);
        Desk.due("outcome", x.outcome(), 0);
        for (int s : new int[] {-1, 1, 40, Integer.MAX_VALUE, Integer.MIN_VALUE}) {
            Desk.due("no such scope", x.close(s), -1);
            Desk.due("outcome", x.outcome(), 3);
        }
    }

    private static void gone() {
        WiringHouse x = Desk.ready("type a; type b; component n is a new { method m arg; } component k is b house { need late a; method m of 0.m(arg); closed of 0.m(1); }");
        x.day();
        x.get(0, 1);
        Desk.due("call", x.call(1, 0, 0, 3), 3);
        x.close(1);
        Desk.due("joined to one that went", x.call(0, 0, 0, 3), 0);
        Desk.causes("joined to one that went", x, 17);
        Desk.due("the call is a step", x.count(10), 4);
        Desk.due("close", x.close(0), 1);
        closed(x, row(1, 0), row(0, 17));
    }

    private static void counts() {
        WiringHouse x = new WiringHouse();
        Desk.book(x, "type a; type b; setting s 1; component c is a house called w { opened 1; method m 1; method n 2; need b; } component d is b day {} component e is b new { } wrap a.m 1 before 1; wrap a.o 1 before 1;");
        int[] first = {2, 1, 3, 3, 2, 1, 0, 0, 0, 0, 0, 0, 0};
        same(x, first);
        Desk.due("check", x.check(), 1);
        first[11] = 1;
        same(x, first);
        Desk.book(x, "type a; component c is a house { opened 1; method m arg + 1; } component f is a house { opened fail 1; }");
        x.check();
        x.day();
        Desk.feed(x, "abc");
        int[] next = {1, 0, 2, 1, 0, 2, 0, 0, 1, 0, 0, 0, 3};
        same(x, next);
        x.get(0, 0);
        x.get(0, 1);
        next[6] = 2;
        next[7] = 1;
        next[9] = 4;
        next[10] = 2;
        same(x, next);
        x.call(0, 0, 0, 1);
        next[9] = 7;
        next[10] = 3;
        same(x, next);
        x.get(0, 7);
        next[10] = 0;
        same(x, next);
        x.named(0);
        next[12] = 0;
        same(x, next);
        Desk.due("count(-1)", x.count(-1), -1);
        Desk.due("count(13)", x.count(13), -1);
        Desk.due("count(MAX)", x.count(Integer.MAX_VALUE), -1);
    }

    private static void same(WiringHouse x, int[] counts) {
        for (int what = 0; what < counts.length; what++) {
            Desk.due("count(" + what + ")", x.count(what), counts[what]);
        }
    }
}
