/** The promises 1 to 23, one by one: what each says of a refused call, of an edge, and of what such a call leaves as it was. */
final class PromiseTest {
    private static final int MAX = Integer.MAX_VALUE;
    private static final int MIN = Integer.MIN_VALUE;

    private PromiseTest() {
    }

    public static void main(String[] args) {
        newObject();
        feed();
        book();
        named();
        setting();
        check();
        fault();
        cycle();
        component();
        candidate();
        day();
        meal();
        get();
        call();
        close();
        closeOrder();
        closeMost();
        closeMeanwhile();
        closeSpent();
        outcome();
        cause();
        object();
        joined();
        closed();
        spoiled();
        did();
        count();
        Desk.finish("PromiseTest");
    }

    private static int[] row(int... numbers) {
        return numbers;
    }

    private static void newObject() {
        Desk.says("Promise 1: No components.");
        WiringHouse x = new WiringHouse();
        Desk.counts(x, 0, 0, 0, 0, 0, 1, 0, 0, 0, 0, 0, 0, 0);
        Desk.due("component(0, 0)", Desk.component(x, 0, 0), Desk.THROWN);
        Desk.due("candidate(0, 0, 0)", x.candidate(0, 0, 0), -1);
        Desk.due("object(0, 0)", Desk.object(x, 0, 0), Desk.THROWN);
        Desk.due("joined(0, 0, 0)", x.joined(0, 0, 0), -1);
        Desk.due("fault(0, 0)", x.fault(0, 0), -1);
        Desk.due("cycle(0, 0)", x.cycle(0, 0), -1);
        Desk.due("spoiled(0, 0)", x.spoiled(0, 0), -1);
        Desk.due("setting(0, 0)", x.setting(0, 0), false);
        Desk.due("outcome()", x.outcome(), 0);
        Desk.due("cause(0)", x.cause(0), 0);
        Desk.closed(x);
        Desk.did(x);
        Desk.due("named(0)", x.named(0), -1);
        Desk.due("day()", x.day(), -1);
        Desk.due("meal(0)", x.meal(0), -1);
        Desk.getEnds(x, 0, 0, 4);
        Desk.callEnds(x, 0, 0, 0, 4);
        Desk.closeEnds(x, 0, 0, 0);
        Desk.due("check()", x.check(), 0);
        Desk.due("READY", x.count(8), 1);
        Desk.getEnds(x, 0, 0, 4);
        Desk.due("day()", x.day(), 1);
        // One object knows nothing of another.
        WiringHouse y = new WiringHouse();
        Desk.counts(y, 0, 0, 0, 0, 0, 1, 0, 0, 0, 0, 0, 0, 0);
    }

    private static void feed() {
        Desk.says("Promise 2: Up to 24 signs come behind the TAPE: the bytes of a, b, c, of each the highest first");
        WiringHouse x = new WiringHouse();
        Desk.due("feed", x.feed(Desk.eight("type abc", 0), Desk.eight("defghijk", 0), Desk.eight("l;type a", 0)), 24);
        Desk.due("feed", x.feed(Desk.eight("; type b", 0), Desk.eight(";", 0), 0), 33);
        Desk.due("book", x.book(), 0);
        Desk.due("the first", Desk.named(x, "abcdefghijkl", 0), 0);
        Desk.due("the second", Desk.named(x, "a", 0), 1);
        Desk.due("the third", Desk.named(x, "b", 0), 2);
        Desk.says("others than 10 and 32 .. 126 .. are left out");
        Desk.due("none", x.feed(0, -1, MIN), 0);
        Desk.due("of a negative number", x.feed(0xff61ff62ff63ff0aL, 0x8000000000000020L, 0x7f7e1f200b0a0900L), 8);
        x.named(0);
        Desk.due("those left out leave no gap", x.feed(0x6100000000000000L, 0x0000000000000062L, 0x00ff630000000000L), 3);
        Desk.due("abc", x.named(0), -1);
        Desk.book(x, "type abc;");
        x.feed(0x6100000000000000L, 0x0000000000000062L, 0x00ff630000000000L);
        Desk.due("abc", x.named(0), 0);
        Desk.says("and what is beyond 4,000, are left out: how many there are");
        for (int i = 0; i < 166; i++) {
            Desk.due("feed", x.feed(Desk.eight("        ", 0), Desk.eight("        ", 0), Desk.eight("        ", 0)), 24 * (i + 1));
        }
        Desk.due("16 of 24", x.feed(Desk.eight("        ", 0), Desk.eight("     typ", 0), Desk.eight("e abc;  ", 0)), 4000);
        Desk.due("none", x.feed(Desk.eight("e abc;  ", 0), 0, 0), 4000);
        Desk.due("count(12)", x.count(12), 4000);
        Desk.due("typ at 3,997", x.book(), 1 + 16 * 3997);
        Desk.due("empty", x.count(12), 0);
        Desk.due("room again", x.feed(1L << 5, 0, 0), 1);
    }

    private static void book() {
        Desk.says("Promise 3: The TAPE is read as a BOOK: 0, or its FAULT");
        WiringHouse x = new WiringHouse();
        Desk.due("an empty TAPE", x.book(), 0);
        Desk.due("a type", Desk.book(x, "type a;"), 0);
        Desk.due("an empty TAPE again", x.book(), 0);
        Desk.due("it has no types", x.count(0), 0);
        Desk.due("a FAULT", Desk.book(x, "type a; type a;"), 3 + 16 * 13);
        Desk.due("it has no types", x.count(0), 0);
        Desk.due("the greatest", Desk.book(x, " ".repeat(4000)), 0);
        Desk.due("the greatest place", Desk.book(x, "type" + " ".repeat(3996)), 1 + 16 * 4000);
    }

    private static void named() {
        Desk.says("Promise 4: The TAPE is one WORD: its number as a type (sort 0), setting (1), component (2), METHOD (3), WORD behind called (4)");
        WiringHouse x = Desk.house("type x; type y; setting s 1; setting t 1; setting u 1; component c is y house called x { method y 1; method c 1; method x 1; need x called c; }");
        int[][] due = {{0, -1, -1, 2, 0}, {1, -1, -1, 0, -1}, {-1, 0, -1, -1, -1}, {-1, 2, -1, -1, -1}, {-1, -1, 0, 1, 1}};
        String[] words = {"x", "y", "s", "u", "c"};
        for (int k = 0; k < words.length; k++) {
            for (int sort = 0; sort < 5; sort++) {
                Desk.due(words[k] + " as " + sort, Desk.named(x, words[k], sort), due[k][sort]);
            }
        }
        Desk.says("NONE if there is none such, no one WORD, another sort");
        Desk.due("none such", Desk.named(x, "z", 0), -1);
        Desk.due("an empty TAPE", Desk.named(x, "", 0), -1);
        Desk.due("blanks", Desk.named(x, " \n ", 0), -1);
        for (String text : new String[] {"x y", "x x", "x;", ";x", "x 1", "1 x", "1x", "1", ";", "#", "X", "x#", "#x", "type", "type x", "xxxxxxxxxxxxx"}) {
            Desk.due(text, Desk.named(x, text, 0), -1);
        }
        for (int sort : new int[] {-1, 5, 6, MAX, MIN}) {
            Desk.due("sort " + sort, Desk.named(x, "x", sort), -1);
            Desk.due("it takes the TAPE, too", x.count(12), 0);
        }
        Desk.due("twenty-four words that fill a TAPE", Desk.named(x, "x" + " ".repeat(3998) + "x", 0), -1);
        Desk.due("one that stands at its end", Desk.named(x, " ".repeat(3999) + "x", 0), 0);
    }

    private static void setting() {
        Desk.says("Promise 5: A setting is v from now on: true; false: none such, the house is READY");
        WiringHouse x = Desk.house("setting s 1; setting t 2; type a; component c is a house when s 3 { method m setting t; }");
        for (int k : new int[] {-1, 2, 12, MAX, MIN}) {
            Desk.due("setting(" + k + ", 3)", x.setting(k, 3), false);
        }
        Desk.due("not THERE", x.component(0, 2), 0);
        Desk.due("setting(0, 3)", x.setting(0, 3), true);
        Desk.due("THERE", x.component(0, 2), 1);
        Desk.due("setting(0, 4)", x.setting(0, 4), true);
        Desk.due("not THERE", x.component(0, 2), 0);
        Desk.due("setting(0, 3)", x.setting(0, 3), true);
        Desk.due("setting(1, MIN)", x.setting(1, MIN), true);
        x.check();
        Desk.due("READY: setting(0, 3)", x.setting(0, 3), false);
        Desk.due("READY: setting(1, 7)", x.setting(1, 7), false);
        Desk.due("READY: setting(9, 7)", x.setting(9, 7), false);
        x.get(0, 0);
        Desk.due("as it was", x.call(0, 0, 0, 0), MIN);
        Desk.due("a new book", Desk.book(x, "setting s 1; setting t 2;"), 0);
        Desk.due("setting(1, 5)", x.setting(1, 5), true);
        // A check() with faults leaves them to be set.
        WiringHouse y = Desk.house("setting s 1; type a; type b; component c is a house { need b; }");
        y.check();
        Desk.due("setting(0, 5)", y.setting(0, 5), true);
    }

    private static void check() {
        Desk.says("Promise 6: CHECK: how many faults (all that there are; the first 100 are told)");
        String eight = "need b;".repeat(8);
        WiringHouse x = Desk.house("type a; type b;" + Desk.times(12, "component c# is a house {" + eight + "}") + "component d is a house { need b; need b; need b; need b; }");
        Desk.due("100 faults", x.check(), 100);
        Desk.due("the last of them", x.fault(99, 1), 12);
        Desk.due("its need", x.fault(99, 2), 3);
        Desk.due("no more", x.fault(100, 0), -1);
        WiringHouse y = Desk.house("type a; type b;" + Desk.times(12, "component c# is a house {" + eight + "}") + "component d is a house { need b; need b; need b; need b; need all a; }");
        // d comes 13th: with need all a it needs all, itself, too: one CYCLE, which is the 101st.
        Desk.due("101 faults", y.check(), 101);
        Desk.due("count(11)", y.count(11), 101);
        Desk.due("the 100th", y.fault(99, 0), 1);
        Desk.due("the 101st", y.fault(100, 0), -1);
        Desk.due("its cycle", y.cycle(100, 0), -1);
        WiringHouse z = Desk.house("type a; type b;" + Desk.times(24, "component c# is a house {" + eight + "}"));
        Desk.due("192 faults", z.check(), 192);
        Desk.due("the 100th", z.fault(99, 1), 12);
        Desk.due("the 101st", z.fault(100, 0), -1);
        WiringHouse v = Desk.house("type a;" + Desk.times(24, "component c# is a house {" + "need all a;".repeat(8) + "}"));
        Desk.due("as many as can be", v.check(), 8 * 24 * 25 / 2);
        Desk.due("the 100th is a CYCLE", v.fault(99, 0), 3);
        Desk.says("The house is READY if there is none (it stays READY)");
        Desk.due("not READY", v.count(8), 0);
        WiringHouse w = Desk.house("type a; component c is a house {}");
        Desk.due("not yet", w.count(8), 0);
        Desk.due("check", w.check(), 0);
        Desk.due("READY", w.count(8), 1);
        w.get(0, 0);
        w.day();
        Desk.due("check", w.check(), 0);
        Desk.due("READY", w.count(8), 1);
        Desk.due("what is made stays", w.count(7), 1);
        Desk.due("the day stays", w.count(5), 2);
        Desk.due("a book with a FAULT", Desk.book(w, "#"), 1);
        Desk.due("READY", w.count(8), 1);
        Desk.due("a book", w.book(), 0);
        Desk.due("not READY", w.count(8), 0);
    }

    private static void fault() {
        Desk.says("Promise 7: Of the i-th fault of the latest check(), what 0: its kind, 1: the component (of CYCLE the first on it), 2: the need (of CYCLE how many are on it); NONE");
        WiringHouse x = Desk.house("setting s 1; type a; type b; component k is a house when s 1 { need a; need b; } component l is a house when s 2 { need b; need b; need a; }");
        Desk.due("ahead of check()", x.fault(0, 0), -1);
        x.check();
        int[][] due = {{1, 0, 1}, {3, 0, 1}};
        for (int i = 0; i < 2; i++) {
            for (int what = 0; what < 3; what++) {
                Desk.due("fault(" + i + ", " + what + ")", x.fault(i, what), due[i][what]);
            }
        }
        for (int what : new int[] {-1, 3, 4, MAX, MIN}) {
            Desk.due("fault(0, " + what + ")", x.fault(0, what), -1);
        }
        for (int i : new int[] {-1, 2, 99, 100, MAX, MIN}) {
            for (int what = 0; what < 3; what++) {
                Desk.due("fault(" + i + ", " + what + ")", x.fault(i, what), -1);
            }
        }
        x.setting(0, 2);
        Desk.due("as of the latest check()", x.fault(0, 1), 0);
        x.check();
        Desk.due("of the next one", x.fault(0, 1), 1);
        Desk.due("of the next one", x.fault(2, 0), 3);
        x.setting(0, 3);
        x.check();
        Desk.due("none is left", x.fault(0, 0), -1);
    }

    private static void cycle() {
        Desk.says("Promise 8: The k-th component on the CYCLE that is the i-th fault; NONE");
        WiringHouse x = Desk.house("type a; type b; type c; component k is a house { need b; need c called w; } component l is b house { need a; } component m is c house { need late c called w; }");
        Desk.due("ahead of check()", x.cycle(0, 0), -1);
        Desk.due("check", x.check(), 3);
        Desk.due("fault 2 is the CYCLE", x.fault(2, 0), 3);
        Desk.due("cycle(2, 0)", x.cycle(2, 0), 0);
        Desk.due("cycle(2, 1)", x.cycle(2, 1), 1);
        for (int k : new int[] {-1, 2, 3, 24, MAX, MIN}) {
            Desk.due("cycle(2, " + k + ")", x.cycle(2, k), -1);
        }
        for (int i : new int[] {-1, 0, 1, 3, 100, MAX, MIN}) {
            Desk.due("cycle(" + i + ", 0)", x.cycle(i, 0), -1);
        }
    }

    private static void component() {
        Desk.says("Promise 9: Of a component, what 0: its SCOPE (0 house, 1 day, 2 meal, 3 new), 1: rank, 2: 1 if it is THERE, 3: needs, 4: called (NONE)");
        WiringHouse x = Desk.house("setting s 3; type a; component h is a house { need a; need late a; need all a; } component d is a day called w rank 9 when s 3 {} component m is a meal called v when s 4 {} component n is a new called w rank 1 { "
            + "need all a;".repeat(8) + "}");
        int[][] due = {{0, 0, 1, 3, -1}, {1, 9, 1, 0, 0}, {2, 0, 0, 0, 1}, {3, 1, 1, 8, 0}};
        for (int c = 0; c < 4; c++) {
            for (int what = 0; what < 5; what++) {
                Desk.due("component(" + c + ", " + what + ")", x.component(c, what), due[c][what]);
            }
        }
        Desk.says("NoSuchElementException: none such");
        for (int c : new int[] {-1, 4, 23, 24, MAX, MIN}) {
            for (int what = -1; what <= 5; what++) {
                Desk.due("component(" + c + ", " + what + ")", Desk.component(x, c, what), Desk.THROWN);
            }
        }
        for (int what : new int[] {-1, 5, MAX, MIN}) {
            Desk.due("component(0, " + what + ")", Desk.component(x, 0, what), Desk.THROWN);
        }
        // Those of the book ahead are gone.
        Desk.book(x, "type a; component c is a day {}");
        Desk.due("component(1, 0)", Desk.component(x, 1, 0), Desk.THROWN);
    }

    private static void candidate() {
        Desk.says("Promise 10: The i-th CANDIDATE of a component's need, by numbers; NONE: none such");
        WiringHouse x = Desk.house("type a; type b; component k is a house called v rank 1 {} component l is a house {} component m is a house rank 1 {} component n is b house { need all a; need a; need b; need a called w; }");
        int[][] due = {{0, 1, 2}, {0, 2}, {3}, {}};
        for (int need = 0; need < 4; need++) {
            for (int i = 0; i < 5; i++) {
                Desk.due("candidate(3, " + need + ", " + i + ")", x.candidate(3, need, i), i < due[need].length ? due[need][i] : -1);
            }
            for (int i : new int[] {-1, 24, 32, 33, MAX, MIN}) {
                Desk.due("candidate(3, " + need + ", " + i + ")", x.candidate(3, need, i), -1);
            }
        }
        for (int need : new int[] {-1, 4, 7, 8, MAX, MIN}) {
            Desk.due("candidate(3, " + need + ", 0)", x.candidate(3, need, 0), -1);
        }
        for (int c : new int[] {-1, 4, 24, MAX, MIN}) {
            Desk.due("candidate(" + c + ", 0, 0)", x.candidate(c, 0, 0), -1);
        }
        Desk.due("one without needs", x.candidate(0, 0, 0), -1);
        WiringHouse y = Desk.house("type a; component k is a house {" + "need a;".repeat(8) + "}");
        Desk.due("the eighth", y.candidate(0, 7, 0), 0);
        Desk.due("no ninth", y.candidate(0, 8, 0), -1);
    }

    private static void day() {
        Desk.says("Promise 11: A day is opened: its scope; NONE: not READY, 40 are there");
        WiringHouse x = new WiringHouse();
        Desk.due("not READY", x.day(), -1);
        Desk.due("no scope was opened", x.count(5), 1);
        x.check();
        for (int s = 1; s < 40; s++) {
            Desk.due("day", x.day(), s);
        }
        Desk.due("40 are there", x.day(), -1);
        Desk.due("40", x.count(5), 40);
        Desk.due("outcome is left", x.outcome(), 0);
        x.close(7);
        Desk.due("40 are there, closed ones with them", x.day(), -1);
    }

    private static void meal() {
        Desk.says("Promise 12: A meal of a day that is open: its scope; NONE likewise, or none such");
        WiringHouse x = new WiringHouse();
        Desk.due("not READY", x.meal(1), -1);
        x.check();
        Desk.due("no day", x.meal(1), -1);
        x.day();
        for (int s : new int[] {0, -1, 2, 40, MAX, MIN}) {
            Desk.due("meal(" + s + ")", x.meal(s), -1);
        }
        Desk.due("meal(1)", x.meal(1), 2);
        Desk.due("meal(2), of a meal", x.meal(2), -1);
        Desk.due("meal(1)", x.meal(1), 3);
        x.close(3);
        Desk.due("the day is open", x.meal(1), 4);
        x.close(1);
        Desk.due("the day is closed", x.meal(1), -1);
        x.day();
        for (int s = 6; s < 40; s++) {
            Desk.due("meal(5)", x.meal(5), s);
        }
        Desk.due("40 are there", x.meal(5), -1);
        // A day of a book that is no more.
        x.book();
        Desk.due("not READY", x.meal(5), -1);
        x.check();
        Desk.due("none such", x.meal(5), -1);
    }

    private static void get() {
        Desk.says("Promise 13: NONE: see outcome(): 1 it failed, 3 no such scope, or it is closed, 4 no such component THERE");
        WiringHouse x = Desk.house("setting s 1; type a; component c is a house { opened fail 1; } component d is a house when s 2 {} component e is a day {}");
        Desk.says("also 4, ahead of 3, when the house is not READY");
        Desk.getEnds(x, 0, 0, 4);
        Desk.getEnds(x, 9, 0, 4);
        Desk.getEnds(x, -1, 9, 4);
        x.check();
        x.day();
        x.day();
        x.close(2);
        Desk.says("Promise 13: NONE: see outcome(): 1 it failed, 3 no such scope, or it is closed, 4 no such component THERE");
        Desk.getFails(x, 0, 0, 1);
        for (int scope : new int[] {-1, 2, 3, 40, MAX, MIN}) {
            Desk.getEnds(x, scope, 0, 3);
            // 3 is ahead of 4.
            Desk.getEnds(x, scope, 9, 3);
        }
        for (int c : new int[] {-1, 1, 3, 24, MAX, MIN}) {
            Desk.getEnds(x, 0, c, 4);
            Desk.due("no STEP", x.count(10), 0);
        }
        Desk.due("objects", x.count(6), 1);
        Desk.due("get", x.get(1, 2), 1);
        Desk.due("outcome", x.outcome(), 0);
        Desk.says("6 SPENT");
        WiringHouse y = Desk.ready("type a; type b; component k is a house { method m " + "1+".repeat(99) + "1; } component l is b house { need a; opened " + "of 0.m(1)+".repeat(30) + "1; }");
        Desk.getEnds(y, 0, 1, 6);
    }

    private static void call() {
        Desk.says("Promise 14: A CALL of a METHOD of an object in a scope, with arg: its answer; outcome 0; else 0 is answered: outcome 1, 3 as of get()");
        WiringHouse x = Desk.ready("type a; component c is a house { method m arg; method f fail 1; } component e is a day { method m 0 - 1; }");
        x.day();
        x.day();
        x.get(0, 0);
        x.get(1, 1);
        x.get(2, 1);
        Desk.due("m", x.call(0, 0, 0, 7), 7);
        Desk.due("outcome", x.outcome(), 0);
        Desk.due("in any scope that is open", x.call(0, 1, 0, 7), -1);
        Desk.due("in any scope that is open", x.call(2, 1, 0, 7), -1);
        Desk.due("outcome", x.outcome(), 0);
        Desk.callFails(x, 0, 0, "f", 1);
        x.close(2);
        for (int scope : new int[] {-1, 2, 3, 40, MAX, MIN}) {
            Desk.callEnds(x, scope, 0, 0, 3);
            Desk.says("4, behind 3, no such object (one that went, too) or METHOD");
            Desk.callEnds(x, scope, 9, 0, 3);
            Desk.callEnds(x, scope, 0, 9, 3);
        }
        for (int object : new int[] {-1, 2, 3, 300, MAX, MIN}) {
            Desk.callEnds(x, 0, object, 0, 4);
        }
        for (int method : new int[] {-1, 2, 20, MAX, MIN}) {
            Desk.callEnds(x, 0, 0, method, 4);
            Desk.due("nothing was done", x.did(0, 0), -1);
            Desk.due("no STEP", x.count(10), 0);
        }
        // A METHOD that another component has is one.
        WiringHouse y = Desk.house("type a; component c is a house { method m 1; } component d is a house { method n 1; }");
        Desk.callEnds(y, 0, 0, 0, 4);
        Desk.callEnds(y, 1, 0, 0, 3);
        y.check();
        y.get(0, 0);
        Desk.callFails(y, 0, 0, "n", 11);
        Desk.says("6");
        WiringHouse z = Desk.ready("type a; type b; component k is a house { method m " + "1+".repeat(99) + "1; } component l is b house { need a; method m " + "of 0.m(1)+".repeat(30) + "1; }");
        z.get(0, 1);
        Desk.callEnds(z, 0, 0, 0, 6);
    }

    private static final String FOUR = "type a; component h is a house {} component d is a day {} component m is a meal {} component n is a new {}";

    private static void close() {
        Desk.says("Promise 15: NONE: 3 no such scope, closed");
        WiringHouse x = Desk.ready(FOUR);
        x.day();
        x.meal(1);
        x.meal(1);
        x.get(2, 2);
        x.get(3, 2);
        for (int scope : new int[] {-1, 4, 39, 40, MAX, MIN}) {
            Desk.closeEnds(x, scope, -1, 3);
        }
        Desk.due("nothing was closed", x.count(7), 2);
        Desk.closeEnds(x, 2, 1, 0);
        Desk.closeEnds(x, 2, -1, 3);
        Desk.due("the other meal is open", x.count(5), 3);
        Desk.closeEnds(x, 1, 1, 0);
        Desk.closeEnds(x, 1, -1, 3);
        Desk.closeEnds(x, 3, -1, 3);
        Desk.says("how many were closed; outcome 0");
        Desk.closeEnds(x, 0, 0, 0);
        Desk.says("Scope 0 is open again, empty, when it was closed");
        Desk.closeEnds(x, 0, 0, 0);
        Desk.due("open", x.count(5), 1);
        Desk.due("h", x.get(0, 0), 2);
        Desk.closeEnds(x, 0, 1, 0);
        Desk.due("empty", x.count(7), 0);
        Desk.due("h anew", x.get(0, 0), 3);
        Desk.due("scopes go on", x.day(), 4);
        Desk.due("READY stays", x.count(8), 1);
        // Not READY: there is the house's all the same.
        WiringHouse y = Desk.house(FOUR);
        Desk.closeEnds(y, 0, 0, 0);
        Desk.says("what is SPOILED in a scope is not any more");
        WiringHouse z = Desk.ready("type a; component h is a house { opened fail 1; } component d is a day { opened fail 2; } component m is a meal { opened fail 3; }");
        z.day();
        z.meal(1);
        z.get(2, 0);
        z.get(2, 1);
        z.get(2, 2);
        z.close(2);
        Desk.due("the house's and the day's stay so", z.spoiled(0, 0) + z.spoiled(1, 1), 2);
        z.close(1);
        Desk.due("the house's stays so", z.spoiled(0, 0), 1);
        z.close(0);
        Desk.due("none", z.spoiled(0, 0), 0);
        Desk.getFails(z, 0, 0, 1);
    }

    private static void closeOrder() {
        Desk.says("A scope is closed, its meals ahead of it, the latest opened first; its objects, the one whose making ended latest first");
        WiringHouse x = Desk.ready(FOUR + "type b; type c; component l is c day {} component k is b day { need c; }");
        x.day();
        x.meal(1);
        x.meal(1);
        x.meal(1);
        x.get(3, 2);
        x.get(2, 2);
        x.get(4, 2);
        x.get(2, 3);
        x.get(1, 5);
        // 0 m of 3, 1 m of 2, 2 m of 4, 3 n of 2, 4 k, 5 l, which ended ahead of k.
        Desk.closeEnds(x, 1, 6, 0);
        Desk.closed(x, row(2, 0), row(0, 0), row(3, 0), row(1, 0), row(4, 0), row(5, 0));
        Desk.says("Of scope 0 the days ahead of its objects, the latest opened first, each so");
        WiringHouse y = Desk.ready(FOUR);
        y.day();
        y.day();
        y.meal(1);
        y.meal(2);
        y.meal(1);
        y.get(5, 2);
        y.get(1, 1);
        y.get(0, 0);
        y.get(3, 2);
        y.get(4, 2);
        y.get(2, 1);
        y.get(0, 3);
        // 0 m of 5, 1 d of 1, 2 h, 3 m of 3, 4 m of 4, 5 d of 2, 6 n of 0.
        Desk.closeEnds(y, 0, 7, 0);
        Desk.closed(y, row(4, 0), row(5, 0), row(0, 0), row(3, 0), row(1, 0), row(6, 0), row(2, 0));
        Desk.due("open", y.count(5), 1);
        for (int s = 1; s <= 5; s++) {
            Desk.closeEnds(y, s, -1, 3);
        }
    }

    /** All that can be closed at once: 300 objects in 40 scopes. */
    private static void closeMost() {
        Desk.says("how many were closed; outcome 0");
        WiringHouse x = Desk.ready("type a; type b; component n is a new {} component k is b new {" + "need a;".repeat(8) + "}");
        for (int s = 1; s < 40; s++) {
            Desk.due("a scope", s % 3 == 1 ? x.day() : x.meal(s - (s - 1) % 3), s);
        }
        for (int s = 0; s < 33; s++) {
            Desk.due("nine in scope " + s, x.get(s, 1), 9 * s);
        }
        for (int s = 37; s < 40; s++) {
            Desk.due("one in scope " + s, x.get(s, 0), 260 + s);
        }
        Desk.closeEnds(x, 0, 300, 0);
        Desk.due("the first, of the latest day's latest meal", x.closed(0, 0), 299);
        Desk.due("the 300th, of the house", x.closed(299, 0), 1);
        Desk.due("none is left", x.count(7), 0);
        Desk.due("the house's is open", x.count(5), 1);
    }

    private static void closeMeanwhile() {
        Desk.says("Objects that are made in it meanwhile are closed, too");
        WiringHouse x = Desk.ready("type a; type b; type c; component k is a day { need late b; closed of 0.m(1); } component l is b day { need late c; method m 1; closed of 0.m(1) + fail 4; } component n is c new { method m 1; closed fail 5; } "
            + "component h is a house rank 1 {}");
        x.day();
        x.get(1, 3);
        x.get(1, 0);
        // k 1 is closed and makes l 2, which makes n 3.
        Desk.closeEnds(x, 1, 3, 0);
        Desk.closed(x, row(1, 0), row(2, 4), row(3, 5));
        Desk.due("the house's stays", x.count(7), 1);
        // A meal's closing makes its day's: it is closed with the day, when that is closed.
        WiringHouse y = Desk.ready("type a; type b; type h; component k is a meal { need late b; closed of 0.m(1); } component l is b day { need late h; method m of 0.m(1); } component o is h house { method m 1; }");
        y.day();
        y.meal(1);
        y.meal(1);
        y.get(2, 0);
        y.get(3, 0);
        Desk.closeEnds(y, 3, 1, 0);
        Desk.due("l and o are there", y.object(2, 2) + y.object(3, 2), 2);
        Desk.closeEnds(y, 1, 2, 0);
        Desk.closed(y, row(1, 0), row(0, 0), row(2, 0));
        Desk.due("o is there", y.object(3, 2), 1);
        Desk.closeEnds(y, 0, 1, 0);
        // One that is closed and made anew meanwhile.
        WiringHouse z = Desk.ready("type a; type b; component k is a house { method m 1; } component l is b house { need a; need late a; closed of 1.m(1); }");
        z.get(0, 0);
        z.get(0, 1);
        z.close(0);
        Desk.closed(z, row(1, 0), row(0, 0));
        WiringHouse v = Desk.ready("type a; type b; component k is a house { method m 1; } component l is b house { need late a; closed of 0.m(1); }");
        v.get(0, 1);
        v.get(0, 0);
        // k 1 goes first; l 0 makes k 2.
        Desk.closeEnds(v, 0, 3, 0);
        Desk.closed(v, row(1, 0), row(0, 0), row(2, 0));
    }

    private static void closeSpent() {
        Desk.says("6 SPENT (each closing that is SPENT is noted with 18; the others go on, SPENT as they may be)");
        String spend = "of 0.p(1)+".repeat(30) + "1";
        WiringHouse x = Desk.ready("type w; type a; component u is w house { method p " + "1+".repeat(99) + "1; } component k0 is a day { closed 1; } component k1 is a day { need w; closed " + spend + "; } component k2 is a day { closed fail 2; } "
            + "component k3 is a day {} component k4 is a meal { need w; closed " + spend + "; }");
        x.day();
        x.meal(1);
        x.get(2, 1);
        x.get(2, 2);
        x.get(2, 3);
        x.get(2, 4);
        Desk.closeEnds(x, 1, -1, 6);
        // u 2 is the house's; k0 0, k1 1, k2 3, k3 4.
        Desk.closed(x, row(4, 0), row(3, 2), row(1, 18), row(0, 18));
        Desk.due("STEPS", x.count(10), 3000);
        Desk.due("they went, and the scopes are closed", x.count(7) + x.count(5), 2);
        Desk.closeEnds(x, 1, -1, 3);
        Desk.closeEnds(x, 2, -1, 3);
        // SPENT in a meal: those of its day go on, SPENT as they may be.
        x.day();
        x.meal(3);
        x.get(4, 5);
        x.get(4, 4);
        x.get(4, 3);
        x.get(4, 1);
        Desk.closeEnds(x, 0, -1, 6);
        // k4 5, k3 6, k2 7, k0 8.
        int[][] due = {{5, 18}, {8, 18}, {7, 18}, {6, 0}, {2, 0}};
        for (int i = 0; i < due.length; i++) {
            Desk.due("closed(" + (4 + i) + ", 0)", x.closed(4 + i, 0), due[i][0]);
            Desk.due("closed(" + (4 + i) + ", 1)", x.closed(4 + i, 1), due[i][1]);
        }
        Desk.due("scope 0 is open again", x.get(0, 0), 9);
    }

    private static void outcome() {
        Desk.says("Promise 16: The outcome of the latest get(), call(), close()");
        WiringHouse x = Desk.ready("type a; component c is a house { method m 1; method f fail 1; }");
        x.get(0, 9);
        Desk.due("get", x.outcome(), 4);
        x.get(9, 0);
        Desk.due("get", x.outcome(), 3);
        x.feed(0, 0, 0);
        x.named(0);
        x.setting(0, 0);
        x.check();
        x.day();
        x.meal(0);
        x.fault(0, 0);
        x.candidate(0, 0, 0);
        x.spoiled(0, 0);
        x.joined(0, 0, 0);
        Desk.book(x, "#");
        Desk.due("none of the others changes it", x.outcome(), 3);
        x.get(0, 0);
        Desk.due("get", x.outcome(), 0);
        x.call(0, 0, 1, 0);
        Desk.due("call", x.outcome(), 1);
        x.call(0, 0, 0, 0);
        Desk.due("call", x.outcome(), 0);
        x.close(9);
        Desk.due("close", x.outcome(), 3);
        x.call(0, 9, 0, 0);
        Desk.due("call", x.outcome(), 4);
        x.close(0);
        Desk.due("close", x.outcome(), 0);
        x.get(9, 0);
        x.book();
        Desk.due("a new book", x.outcome(), 0);
    }

    private static void cause() {
        Desk.says("Promise 17: The i-th kind of the failure that ended the latest get(), call() (close() leaves it); 0 behind those, or if none did");
        WiringHouse x = Desk.ready("type a; type b; component c is a house { need b; } component d is b new { opened fail 6; closed fail 2; } component e is a house rank 1 { method m 1; method f fail 3; closed fail 4; }");
        Desk.getFails(x, 0, 0, 20, 6);
        for (int i : new int[] {-1, 2, 3, 100, MAX, MIN}) {
            Desk.due("cause(" + i + ")", x.cause(i), 0);
        }
        x.close(0);
        Desk.due("close() leaves it", x.cause(0), 20);
        Desk.due("close() leaves it", x.cause(1), 6);
        x.close(9);
        Desk.due("a refused close() leaves it", x.cause(1), 6);
        x.day();
        Desk.book(x, "#");
        Desk.due("others leave it", x.cause(1), 6);
        Desk.due("e", x.get(0, 2) >= 0, true);
        Desk.due("get() was well", x.cause(0), 0);
        int e = x.get(0, 2);
        Desk.callFails(x, 0, e, "f", 3);
        x.close(0);
        Desk.due("close(), in which one failed", x.cause(0), 3);
        Desk.getEnds(x, 9, 0, 3);
        e = x.get(0, 2);
        Desk.callFails(x, 0, e, "f", 3);
        Desk.callEnds(x, 9, 0, 0, 3);
        Desk.callFails(x, 0, e, "f", 3);
        Desk.due("m", Desk.call(x, 0, e, "m", 0), 1);
        Desk.due("call() was well", x.cause(0), 0);
    }

    private static void object() {
        Desk.says("Promise 18: Of an object, what 0: its component, 1: its PLACE (a scope), 2: 0 it is being made, 1 it is made, 2 it went; NoSuchElementException: none such");
        WiringHouse x = Desk.ready(FOUR + "component f is a house { opened fail 1; }");
        x.day();
        x.meal(1);
        x.get(2, 1);
        x.get(2, 3);
        x.get(2, 4);
        Desk.object(x, 0, 1, 1, 1);
        Desk.object(x, 1, 3, 2, 1);
        Desk.object(x, 2, 4, 0, 2);
        x.close(2);
        Desk.object(x, 1, 3, 2, 2);
        for (int o : new int[] {-1, 3, 299, 300, MAX, MIN}) {
            for (int what = -1; what <= 3; what++) {
                Desk.due("object(" + o + ", " + what + ")", Desk.object(x, o, what), Desk.THROWN);
            }
        }
        for (int what : new int[] {-1, 3, MAX, MIN}) {
            Desk.due("object(0, " + what + ")", Desk.object(x, 0, what), Desk.THROWN);
        }
    }

    private static void joined() {
        Desk.says("Promise 19: The i-th object that a need of an object is joined to; NONE: none such (a late one: of NEW, when it was used)");
        WiringHouse x = Desk.ready("type n; type h; type k; component cn is n new { method m 1; } component c0 is h house { method m 1; } component c1 is h house rank 1 { method m 1; } "
            + "component c is k house { need all h; need h; need late n; need late h; need n; method p of 2.m(1); method q of 3.m(1); }");
        x.get(0, 2);
        Desk.due("c", x.get(0, 3), 1);
        // c1 0, c 1, c0 2, cn 3.
        int[][] due = {{2, 0}, {0}, {}, {}, {3}};
        for (int round = 0; round < 2; round++) {
            for (int need = 0; need < 5; need++) {
                for (int i = 0; i < 4; i++) {
                    Desk.due("joined(1, " + need + ", " + i + ")", x.joined(1, need, i), i < due[need].length ? due[need][i] : -1);
                }
                for (int i : new int[] {-1, 24, MAX, MIN}) {
                    Desk.due("joined(1, " + need + ", " + i + ")", x.joined(1, need, i), -1);
                }
            }
            Desk.call(x, 0, 1, "p", 0);
            Desk.call(x, 0, 1, "q", 0);
            due[2] = new int[] {4};
        }
        for (int need : new int[] {-1, 5, 7, 8, MAX, MIN}) {
            Desk.due("joined(1, " + need + ", 0)", x.joined(1, need, 0), -1);
        }
        for (int o : new int[] {-1, 0, 5, 299, 300, MAX, MIN}) {
            Desk.due("joined(" + o + ", 0, 0)", x.joined(o, 0, 0), -1);
        }
        // Many: 20 of them, 8 times, for each of 120 objects.
        WiringHouse y = Desk.ready("type a; type b;" + Desk.times(20, "component c# is a house { method m 1; }") + "component k is b new {" + "need all a;".repeat(8) + "method n of 7.m(1); }");
        for (int g = 0; g < 120; g++) {
            Desk.due("get", y.get(0, 20), g == 0 ? 0 : 20 + g);
        }
        for (int k : new int[] {0, 21, 60, 139}) {
            for (int i = 0; i < 20; i++) {
                Desk.due("joined(" + k + ", 3, " + i + ")", y.joined(k, 3, i), 1 + i);
            }
            Desk.due("no more", y.joined(k, 3, 20), -1);
            Desk.due("the last need's first", y.joined(k, 7, 0), 1);
            Desk.due("the last need's last", y.joined(k, 7, 19), 20);
            Desk.due("no ninth need", y.joined(k, 8, 0), -1);
        }
        Desk.due("the sum of 20", Desk.call(y, 0, 139, "n", 0), 20);
    }

    private static void closed() {
        Desk.says("Promise 20: The i-th object that was closed (or was to be), what 0: which, 1: the first kind of what failed in it, 0 for none; NONE");
        WiringHouse x = Desk.ready("type a; type b; component k is a house {} component l is a house { closed fail 9; } component m is a house { need late b; closed of 0.m(1); } component f is b house { need b; } component g is b house rank 1 { opened fail 1; }");
        Desk.closed(x);
        x.get(0, 0);
        x.get(0, 1);
        x.get(0, 2);
        x.close(0);
        Desk.closed(x, row(2, 1), row(1, 9), row(0, 0));
        for (int i : new int[] {-1, 3, 299, 300, MAX, MIN}) {
            Desk.due("closed(" + i + ", 0)", x.closed(i, 0), -1);
            Desk.due("closed(" + i + ", 1)", x.closed(i, 1), -1);
        }
        for (int what : new int[] {-1, 2, MAX, MIN}) {
            Desk.due("closed(0, " + what + ")", x.closed(0, what), -1);
        }
        // The next ones come behind; the first kind of a row is 20.
        x.get(0, 2);
        x.get(0, 0);
        Desk.getFails(x, 0, 4, 1);
        x.close(0);
        Desk.closed(x, row(2, 1), row(1, 9), row(0, 0), row(5, 0), row(4, 15));
        WiringHouse y = Desk.ready("type a; type b; component m is a house { need late b; closed of 0.m(1); } component f is b house rank 1 { need b called w; } component g is b house called w { opened fail 1; }");
        y.get(0, 0);
        y.close(0);
        Desk.closed(y, row(0, 20));
        Desk.says("(The first 300.)");
        WiringHouse z = Desk.ready("type a; type b; component n is a new { closed fail 3; } component k is b new {" + "need a;".repeat(8) + "closed fail 2; }");
        for (int i = 0; i < 34; i++) {
            z.get(0, 1);
        }
        Desk.due("300 began, the last two are undone", z.count(6), 300);
        Desk.due("297 are there", z.count(7), 297);
        Desk.due("close", z.close(0), 297);
        Desk.due("all but the last k, which was not made, were closed", z.closed(298, 0), 1);
        Desk.due("no more", z.closed(299, 0), -1);
    }

    private static void spoiled() {
        Desk.says("Promise 21: Whether a component is SPOILED in its PLACE of a scope: 1 or 0 (0 without a PLACE)");
        WiringHouse x = Desk.ready("setting s 1; type a; component h is a house { opened fail 1; } component d is a day { opened fail 1; } component m is a meal { opened fail 1; } component n is a new { opened fail 1; } component o is a house when s 2 {}");
        x.day();
        x.meal(1);
        x.meal(1);
        x.day();
        for (int c = 0; c < 4; c++) {
            x.get(2, c);
        }
        int[][] due = {{1, 0, 0, 0, 0}, {1, 1, 0, 0, 0}, {1, 1, 1, 0, 0}, {1, 1, 0, 0, 0}, {1, 0, 0, 0, 0}};
        for (int scope = 0; scope < 5; scope++) {
            for (int c = 0; c < 5; c++) {
                Desk.due("spoiled(" + scope + ", " + c + ")", x.spoiled(scope, c), due[scope][c]);
            }
        }
        Desk.says("NONE: none such, or the scope is closed");
        for (int scope : new int[] {-1, 5, 39, 40, MAX, MIN}) {
            Desk.due("spoiled(" + scope + ", 0)", x.spoiled(scope, 0), -1);
        }
        for (int c : new int[] {-1, 5, 24, 32, MAX, MIN}) {
            Desk.due("spoiled(0, " + c + ")", x.spoiled(0, c), -1);
        }
        x.close(2);
        Desk.due("a closed one", x.spoiled(2, 0), -1);
        x.close(1);
        Desk.due("a closed one", x.spoiled(3, 0), -1);
    }

    private static void did() {
        Desk.says("Promise 22: The i-th thing that the latest call() did, within it all: what 0: 0 before, 1 around (as it begins), 2 after, 3 failing, 4 the METHOD, 1: the wrap, or the object; 2: arg; NONE");
        WiringHouse x = Desk.ready("type a; type b; component k is a house { method m arg; method f arg + fail 2; } component l is b house { need a; need late b called w; opened of 0.m(8); method m of 0.m(arg) + of 0.f(arg); method n of 1.m(1); } "
            + "component o is b house called w { need a; opened of 0.m(9); method m arg; } wrap b.m 4 around go(arg + 1); wrap a.f 3 failing arg * 5; wrap a.m 2 before arg + 2; wrap a.m 1 after arg * 2;");
        Desk.did(x);
        int l = x.get(0, 1);
        Desk.did(x);
        Desk.due("m", Desk.call(x, 0, l, "m", 1), 8 + 10);
        int[][] rows = {{1, 0, 1}, {4, 0, 2}, {0, 2, 2}, {4, 1, 4}, {2, 3, 4}, {4, 1, 2}, {3, 1, 2}};
        Desk.did(x, rows);
        for (int i : new int[] {-1, 7, 99, 100, MAX, MIN}) {
            for (int what = 0; what < 3; what++) {
                Desk.due("did(" + i + ", " + what + ")", x.did(i, what), -1);
            }
        }
        for (int what : new int[] {-1, 3, MAX, MIN}) {
            Desk.due("did(0, " + what + ")", x.did(0, what), -1);
        }
        x.get(0, 0);
        x.get(9, 0);
        x.close(9);
        x.day();
        Desk.did(x, rows);
        WiringHouse z = Desk.ready("type a; type b; component k is a house { method m arg; } component l is b new { need a; opened of 0.m(8); method m of 0.m(arg); closed of 0.m(9); }");
        z.get(0, 1);
        z.call(0, 0, 0, 5);
        z.get(0, 1);
        Desk.did(z, row(4, 0, 5), row(4, 1, 5));
        z.close(0);
        Desk.did(z, row(4, 0, 5), row(4, 1, 5));
        // Within it all: what is made for a late need is told, too.
        Desk.due("n", Desk.call(x, 0, l, "n", 5), 2);
        Desk.did(x, row(4, 0, 5), row(0, 2, 9), row(4, 1, 11), row(2, 3, 11), row(1, 0, 1), row(4, 2, 2));
        Desk.callEnds(x, 9, 0, 0, 3);
        Desk.did(x);
        Desk.says("(The first 100.)");
        WiringHouse y = Desk.ready("type a; type b; component k is a house { method m arg; } component l is b house { need a; method m " + Desk.times(99, "of 0.m(#)+") + "0; method n " + Desk.times(100, "of 0.m(#)+") + "0; }");
        y.get(0, 1);
        y.call(0, 0, 0, 7);
        Desk.due("the 100th", y.did(99, 2), 98);
        Desk.due("no more", y.did(100, 0), -1);
        Desk.due("all were called", Desk.call(y, 0, 0, "n", 7), 99 * 100 / 2);
        Desk.due("the 100th", y.did(99, 2), 98);
        Desk.due("the 101st", y.did(100, 0), -1);
    }

    private static void count() {
        Desk.says("Promise 23: What 0: types, 1: settings, 2: components, 3: METHODS, 4: wraps, 5: scopes that are open, 6: objects, 7: those that are made and didn't go, 8: 1 if READY, "
            + "9: STEPS in all, 10: of the latest get(), call(), close(), 11: faults of the latest check(), 12: signs on the TAPE");
        WiringHouse x = Desk.house("type a; type b; type d; setting s 1; setting t 1; component c is a house { method m 1 + 1; closed 1; } component f is b house { opened fail 1; } component g is a house when s 2 { need d; } "
            + "component h is b day { method n 1; } wrap a.o 1 before 1; wrap a.m 1 after arg;");
        x.setting(0, 2);
        x.check();
        Desk.counts(x, 3, 2, 4, 3, 2, 1, 0, 0, 0, 0, 0, 1, 0);
        x.setting(0, 1);
        x.check();
        Desk.counts(x, 3, 2, 4, 3, 2, 1, 0, 0, 1, 0, 0, 0, 0);
        x.day();
        x.meal(1);
        x.get(0, 0);
        Desk.counts(x, 3, 2, 4, 3, 2, 3, 1, 1, 1, 1, 1, 0, 0);
        x.get(0, 1);
        Desk.counts(x, 3, 2, 4, 3, 2, 3, 2, 1, 1, 3, 2, 0, 0);
        x.call(0, 0, 0, 0);
        Desk.counts(x, 3, 2, 4, 3, 2, 3, 2, 1, 1, 7, 4, 0, 0);
        x.get(2, 3);
        x.feed(' ', 0, 0);
        Desk.counts(x, 3, 2, 4, 3, 2, 3, 3, 2, 1, 8, 1, 0, 1);
        x.get(9, 9);
        Desk.counts(x, 3, 2, 4, 3, 2, 3, 3, 2, 1, 8, 0, 0, 1);
        x.close(1);
        Desk.counts(x, 3, 2, 4, 3, 2, 1, 3, 1, 1, 8, 0, 0, 1);
        x.close(0);
        Desk.counts(x, 3, 2, 4, 3, 2, 1, 3, 0, 1, 9, 1, 0, 1);
        x.day();
        x.check();
        x.named(0);
        Desk.counts(x, 3, 2, 4, 3, 2, 2, 3, 0, 1, 9, 1, 0, 0);
        Desk.says("NONE for another what");
        for (int what : new int[] {-1, 13, 14, MAX, MIN}) {
            Desk.due("count(" + what + ")", x.count(what), -1);
        }
    }
}
