/** Part 3 of the document's terms, SCOPES, TO GET and TO MAKE: a test for each sentence that names an edge, with its words. */
final class Part3Test {
    private Part3Test() {
    }

    public static void main(String[] args) {
        scopes();
        places();
        objects();
        manyObjects();
        noPlace();
        spoiled();
        underWay();
        itsObject();
        needsInOrder();
        needsInPlace();
        opened();
        whatFails();
        notSpoiled();
        fromANeed();
        kinds();
        undone();
        notUndone();
        lateUndone();
        spentUndoing();
        Desk.finish("Part3Test");
    }

    private static int[] row(int... numbers) {
        return numbers;
    }

    // ---- SCOPES, PLACES, OBJECTS

    private static void scopes() {
        Desk.says("SCOPES: 0 the house's; days; meals, each of a day; 40 at most in all, numbered as they are opened");
        WiringHouse x = Desk.ready("");
        Desk.due("the house's is open", x.count(5), 1);
        Desk.due("a meal of the house", x.meal(0), -1);
        for (int s = 1; s < 40; s += 3) {
            Desk.due("day", x.day(), s);
            Desk.due("meal", x.meal(s), s + 1);
            Desk.due("a meal of a meal uses no number", x.meal(s + 1), -1);
            Desk.due("a meal of one that is not there uses none", x.meal(s + 2), -1);
            Desk.due("meal", x.meal(1), s + 2);
        }
        Desk.due("40 with the house's", x.count(5), 40);
        Desk.due("the 41st as a day", x.day(), -1);
        Desk.due("the 41st as a meal", x.meal(1), -1);
        Desk.closeEnds(x, 39, 0, 0);
        Desk.closeEnds(x, 40, -1, 3);
        Desk.due("one was closed", x.count(5), 39);
        Desk.due("40 were opened", x.day(), -1);
        Desk.due("40 were opened", x.meal(1), -1);
        Desk.closeEnds(x, 0, 0, 0);
        Desk.due("all were closed but the house's", x.count(5), 1);
        Desk.due("40 were opened", x.day(), -1);
        Desk.due("a new book", x.book(), 0);
        x.check();
        Desk.due("numbered anew", x.day(), 1);
    }

    private static void places() {
        Desk.says("A component's PLACE in a scope: of house scope 0; of day the day itself, or the meal's; of meal the meal; of NEW the scope itself; there may be none (NO PLACE)");
        WiringHouse x = Desk.ready("type a; component h is a house {} component d is a day {} component m is a meal {} component n is a new {}");
        x.day();
        x.day();
        x.meal(1);
        x.meal(2);
        x.meal(1);
        int[][] places = {{0, -1, -1, 0}, {0, 1, -1, 1}, {0, 2, -1, 2}, {0, 1, 3, 3}, {0, 2, 4, 4}, {0, 1, 5, 5}};
        for (int scope = 0; scope < places.length; scope++) {
            for (int c = 0; c < 4; c++) {
                if (places[scope][c] < 0) {
                    Desk.getFails(x, scope, c, 14);
                } else {
                    int o = x.get(scope, c);
                    Desk.object(x, o, c, places[scope][c], 1);
                }
            }
        }
        Desk.due("1 of house, 2 of day, 3 of meal, 6 of new", x.count(6), 12);
    }

    private static void objects() {
        Desk.says("OBJECTS are numbered as their making begins");
        WiringHouse x = Desk.ready("type a; type b; type c; component k is a house { need b; need c; } component l is b house { need c; } component m is c house {} component f is a new { opened fail 1; }");
        Desk.due("k", x.get(0, 0), 0);
        Desk.object(x, 0, 0, 0, 1);
        Desk.object(x, 1, 1, 0, 1);
        Desk.object(x, 2, 2, 0, 1);
        Desk.due("three", x.count(6), 3);
        Desk.getFails(x, 0, 3, 1);
        Desk.object(x, 3, 3, 0, 2);
        Desk.due("one that failed has its number", x.count(6), 4);
        x.close(0);
        Desk.due("the next", x.get(0, 2), 4);
        Desk.due("once more", x.get(0, 2), 4);
        Desk.due("five", x.count(6), 5);
    }

    /** 300 of them: 33 times nine, and three. */
    private static WiringHouse full(boolean closes) {
        WiringHouse x = Desk.ready("type a; type b; type c; type d; component n is a new { method m arg; } component k is b new {" + "need a;".repeat(8) + "} component h is c house {} "
            + "component g is d house { need c; need a; closed 1; } component u is b house rank 1 { need late a; need late c; method p of 0.m(1); method q of 1.m(1); }");
        for (int i = 0; i < 33; i++) {
            Desk.due("nine more", x.get(0, 1), 9 * i);
            if (closes) {
                Desk.due("they go", x.close(0), 9);
            }
        }
        Desk.due("u", x.get(0, 4), 297);
        Desk.due("n", x.get(0, 0), 298);
        return x;
    }

    private static void manyObjects() {
        Desk.says("300 at most, those that went, too .. (the 301st: 16)");
        for (boolean closes : new boolean[] {false, true}) {
            WiringHouse x = full(closes);
            Desk.due("the 300th", x.get(0, 0), 299);
            Desk.getFails(x, 0, 0, 16);
            Desk.getFails(x, 0, 2, 16);
            Desk.due("16 does not spoil", x.spoiled(0, 2), 0);
            Desk.due("300", x.count(6), 300);
            Desk.due("object 300", Desk.object(x, 300, 0), Desk.THROWN);
            Desk.due("one that is there is got", x.get(0, 4), 297);
            Desk.callFails(x, 0, 297, "p", 16);
            Desk.due("not joined", x.joined(297, 0, 0), -1);
            Desk.due("close", x.close(0), closes ? 3 : 300);
            Desk.getFails(x, 0, 2, 16);
        }
        WiringHouse y = full(true);
        // g is the 300th, its need the 301st.
        Desk.getFails(y, 0, 3, 20, 16);
        Desk.object(y, 299, 3, 0, 2);
        Desk.due("g is not spoiled", y.spoiled(0, 3), 0);
        Desk.due("c is not spoiled", y.spoiled(0, 2), 0);
        Desk.getFails(y, 0, 3, 16);
    }

    // ---- TO GET

    private static void noPlace() {
        Desk.says("NO PLACE is a failure 14");
        WiringHouse x = Desk.ready("type a; type b; type c; component d is a day { method m 1; } component m is b meal { method m 1; } "
            + "component n is c new { need b; } component u is c house rank 1 { need late a; need late b; method p of 0.m(1); method q of 1.m(1); }");
        Desk.getFails(x, 0, 0, 14);
        Desk.getFails(x, 0, 1, 14);
        x.day();
        Desk.getFails(x, 1, 1, 14);
        // Nothing began, nothing is spoiled; a new one that needs it begins, and goes.
        Desk.due("no object", x.count(6), 0);
        Desk.due("no step", x.count(10), 0);
        Desk.getFails(x, 1, 2, 20, 14);
        Desk.object(x, 0, 2, 1, 2);
        Desk.due("u", x.get(1, 3), 1);
        Desk.callFails(x, 0, 1, "p", 14);
        Desk.callFails(x, 1, 1, "q", 14);
        Desk.due("in the day", Desk.call(x, 1, 1, "p", 0), 1);
        x.meal(1);
        Desk.due("in the meal", Desk.call(x, 2, 1, "q", 0), 1);
    }

    private static void spoiled() {
        Desk.says("It is SPOILED in its PLACE: 15");
        WiringHouse x = Desk.ready("type a; type b; component d is a day { opened fail 6; } component k is b house { need late a; method m of 0.m(1); }");
        x.day();
        x.meal(1);
        x.meal(1);
        x.day();
        x.get(0, 1);
        Desk.getFails(x, 2, 0, 6);
        Desk.getFails(x, 2, 0, 15);
        Desk.getFails(x, 3, 0, 15);
        Desk.getFails(x, 1, 0, 15);
        Desk.callFails(x, 3, 0, "m", 15);
        Desk.due("no object began for these", x.count(6), 2);
        Desk.due("STEPS: the CALL, of, 1", x.count(10), 3);
        // Its PLACE of another day is another one.
        Desk.callFails(x, 4, 0, "m", 6);
        Desk.callFails(x, 4, 0, "m", 15);
        Desk.getFails(x, 0, 0, 14);
    }

    private static void underWay() {
        Desk.says("It is under way there (not NEW): 12");
        String text = "type a; type b; component k is a # { need b; method m 5; } component l is b # { need late a; opened of 0.m(1); }";
        for (String scope : new String[] {"house", "day", "meal"}) {
            WiringHouse x = Desk.ready(text.replace("#", scope));
            x.day();
            x.meal(1);
            Desk.getFails(x, 2, 0, 20, 12);
            Desk.getFails(x, 2, 1, 20, 12);
            Desk.due("neither is spoiled", x.spoiled(2, 0) + x.spoiled(2, 1), 0);
            Desk.due("two began for each", x.count(6), 4);
        }
        // Of itself, in opened.
        WiringHouse y = Desk.ready("type a; component k is a house { need late a; opened of 0.m(1); method m 5; }");
        Desk.getFails(y, 0, 0, 12);
        // A NEW one is made anew, down to the eleventh.
        WiringHouse z = Desk.ready("type a; component k is a new { need late a; opened of 0.m(1); method m 5; }");
        Desk.getFails(z, 0, 0, 13);
        Desk.due("eleven began", z.count(6), 11);
        // One that is being closed is not under way.
        WiringHouse v = Desk.ready("type a; component k is a house { need late a; method m 5; closed of 0.m(1) - 5; }");
        v.get(0, 0);
        Desk.closeEnds(v, 0, 1, 0);
        Desk.closed(v, row(0, 0));
    }

    private static void itsObject() {
        Desk.says("There is its object: that one (not NEW)");
        WiringHouse x = Desk.ready("type a; type b; component h is a house {} component d is a day {} component m is a meal {} component n is a new {} component k is b meal { need all a; }");
        x.day();
        x.meal(1);
        x.meal(1);
        Desk.due("k", x.get(2, 4), 0);
        for (int c = 0; c < 3; c++) {
            Desk.due("got once more", x.get(2, c), c + 1);
            Desk.due("no STEP", x.count(10), 0);
        }
        Desk.due("new once more", x.get(2, 3), 5);
        Desk.due("and again", x.get(2, 3), 6);
        Desk.due("k in another meal", x.get(3, 4), 7);
        int[] joined = {1, 2, 8, 9};
        for (int i = 0; i < 4; i++) {
            Desk.due("joined(7, 0, " + i + ")", x.joined(7, 0, i), joined[i]);
        }
    }

    // ---- TO MAKE

    private static void needsInOrder() {
        Desk.says("for each need that is not late, in order, its CANDIDATE (of all each one, by numbers) is GOT");
        WiringHouse x = Desk.ready("type a; type b; type c; type d; component k0 is a house {} component k1 is b house {} component k2 is a house {} component k3 is c house { need late b; need b; need all a; need late a called w; need all d; } "
            + "component k4 is a house called w {}");
        Desk.due("k3", x.get(0, 3), 0);
        int[] components = {3, 1, 0, 2, 4};
        for (int o = 0; o < 5; o++) {
            Desk.object(x, o, components[o], 0, 1);
        }
        Desk.due("no more", x.count(6), 5);
        int[][] joined = {{}, {1}, {2, 3, 4}, {}, {}};
        for (int need = 0; need < 5; need++) {
            for (int i = 0; i <= joined[need].length; i++) {
                Desk.due("joined(0, " + need + ", " + i + ")", x.joined(0, need, i), i < joined[need].length ? joined[need][i] : -1);
            }
        }
        // By the components' numbers, whichever was made ahead; what fails ends it.
        WiringHouse y = Desk.ready("type a; type c; component k0 is a house {} component k1 is a house {} component k2 is a house { opened fail 2; } component k3 is a house {} component k is c house { need all a; }");
        y.get(0, 1);
        Desk.getFails(y, 0, 4, 20, 2);
        int[] began = {1, 4, 0, 2};
        for (int o = 0; o < 4; o++) {
            Desk.object(y, o, began[o], 0, o == 0 ? 1 : 2);
        }
        Desk.due("k3 was not begun", y.count(6), 4);
        Desk.due("the first one was joined", y.joined(1, 0, 0), 2);
        Desk.due("the second one, too", y.joined(1, 0, 1), 0);
        Desk.due("no more", y.joined(1, 0, 2), -1);
    }

    private static void needsInPlace() {
        Desk.says("is GOT in that PLACE");
        WiringHouse x = Desk.ready("type n; type h; type d; type m; component kn is n new {} component kh is h house { need n; } component kd is d day { need n; need h; } component km is m meal { need n; need d; }");
        x.day();
        x.meal(1);
        Desk.due("km", x.get(2, 3), 0);
        int[][] told = {{3, 2}, {0, 2}, {2, 1}, {0, 1}, {1, 0}, {0, 0}};
        for (int o = 0; o < told.length; o++) {
            Desk.object(x, o, told[o][0], told[o][1], 1);
        }
        Desk.due("no more", x.count(6), 6);
    }

    private static void opened() {
        Desk.says("then opened, if it has that, is worked out with arg 0, in that PLACE; then it is made");
        WiringHouse x = Desk.ready("type a; type b; component k is a house { opened pick(arg, fail 1, arg); } component l is a house rank 1 {} component m is a house { opened fail 2; } component n is b new {}");
        Desk.due("arg is 0", x.get(0, 0), 0);
        Desk.due("STEPS: MAKING, pick, arg, arg", x.count(10), 4);
        Desk.due("no opened", x.get(0, 1), 1);
        Desk.due("STEPS: MAKING", x.count(10), 1);
        Desk.getFails(x, 0, 2, 2);
        // Needs are there when opened is worked out, and it is made only behind that.
        WiringHouse y = Desk.ready("type a; type b; type d; component k is a house { need b; need late d; opened of 0.m(3) + of 1.m(1); } component l is b house { method m arg; } component e is d day { method m 1; }");
        y.day();
        Desk.getFails(y, 1, 0, 14);
        Desk.due("STEPS: two MAKINGS, of, 3, CALL, arg, of, 1", y.count(10), 8);
        Desk.closed(y, row(1, 0));
        WiringHouse z = Desk.ready("type a; type d; component k is a meal { need late d; opened of 0.m(1); } component e is d day { method m 1; }");
        z.day();
        z.meal(1);
        Desk.due("from the meal its day's is got", z.get(2, 0), 0);
        Desk.object(z, 1, 1, 1, 1);
    }

    private static void whatFails() {
        Desk.says("What fails in this: the object goes; the component is SPOILED in that PLACE");
        for (int kind = 1; kind <= 9; kind++) {
            WiringHouse x = Desk.ready("type a; component k is a day { opened fail " + kind + "; }");
            x.day();
            x.meal(1);
            x.day();
            Desk.getFails(x, 2, 0, kind);
            Desk.object(x, 0, 0, 1, 2);
            Desk.due("in the meal's day", x.spoiled(2, 0), 1);
            Desk.due("in the day", x.spoiled(1, 0), 1);
            Desk.due("in the other day", x.spoiled(3, 0), 0);
        }
        // 11, 14, 15, 17 and those with 20 ahead spoil, too.
        WiringHouse y = Desk.ready("type n; type a; type b; type d; component w is n new { method m 1; } component u is a house { need late n; method m of 0.m(1); } component e is d day { method m 1; } "
            + "component k11 is b house { need a; opened of 0.x(1); } component k14 is b house rank 1 { need late d; opened of 0.m(1); } component k15 is b house rank 2 { need late b; opened of 0.m(1); } "
            + "component f is b house rank 9 { opened fail 1; } component k17 is b house rank 3 { need a; opened of 0.m(1); } component k20 is b house rank 4 { need b; }");
        y.day();
        y.get(0, 1);
        y.call(1, 0, 0, 0);
        y.close(1);
        Desk.getFails(y, 0, 3, 11);
        Desk.getFails(y, 0, 4, 14);
        Desk.getFails(y, 0, 6, 1);
        Desk.getFails(y, 0, 5, 15);
        Desk.getFails(y, 0, 7, 17);
        Desk.getFails(y, 0, 8, 20, 15);
        for (int c = 3; c <= 8; c++) {
            Desk.due("spoiled(0, " + c + ")", y.spoiled(0, c), 1);
        }
        Desk.due("the NEEDED one is not", y.spoiled(0, 1), 0);
        // Each one on the way outward is spoiled in its own PLACE; what was made well is not.
        WiringHouse z = Desk.ready("type h; type d; type m; type g; component kh is h house { opened fail 1; } component kg is g house {} component kd is d day { need g; need h; } component km is m meal { need d; }");
        z.day();
        z.meal(1);
        z.meal(1);
        Desk.getFails(z, 2, 3, 20, 20, 1);
        int[][] due = {{1, 0, 0, 0}, {1, 0, 1, 0}, {1, 0, 1, 1}, {1, 0, 1, 0}};
        for (int scope = 0; scope < 4; scope++) {
            for (int c = 0; c < 4; c++) {
                Desk.due("spoiled(" + scope + ", " + c + ")", z.spoiled(scope, c), due[scope][c]);
            }
        }
    }

    private static void notSpoiled() {
        Desk.says("(not NEW; not if the failure's last kind is 12, 13 or 16)");
        WiringHouse x = Desk.ready("type a; type b; component k is a new { opened fail 3; } component l is b house { need a; }");
        Desk.getFails(x, 0, 0, 3);
        Desk.due("NEW", x.spoiled(0, 0), 0);
        Desk.getFails(x, 0, 0, 3);
        Desk.getFails(x, 0, 1, 20, 3);
        Desk.due("NEW, as a need", x.spoiled(0, 0), 0);
        Desk.due("what needs it", x.spoiled(0, 1), 1);
        // 12 and 13 behind two 20s: none on the way is spoiled.
        String chain = "type a; type b; type c; component k is a house { need b; method m 1; } component l is b house { need c; } component m is c house { # }";
        WiringHouse y = Desk.ready(chain.replace("#", "need late a; opened of 0.m(1);"));
        Desk.getFails(y, 0, 0, 20, 20, 12);
        Desk.due("12", y.spoiled(0, 0) + y.spoiled(0, 1) + y.spoiled(0, 2), 0);
        WiringHouse z = Desk.ready(chain.replace("#", "need late e; opened of 0.r(1);").replace("type a;", "type a; type e; component o is e house { need late e; method r of 0.r(1); }"));
        Desk.getFails(z, 0, 1, 20, 20, 13);
        Desk.due("13", z.spoiled(0, 1) + z.spoiled(0, 2) + z.spoiled(0, 3), 0);
        Desk.due("o stays, as a late need that was well", z.count(7), 1);
        // 16: see manyObjects(); the same kinds as NUMBERS of fail do not exist, 20 ahead of 1 spoils.
        WiringHouse v = Desk.ready(chain.replace("#", "opened fail 1;"));
        Desk.getFails(v, 0, 0, 20, 20, 1);
        Desk.due("1", v.spoiled(0, 0) + v.spoiled(0, 1) + v.spoiled(0, 2), 3);
    }

    private static void fromANeed() {
        Desk.says("the failure goes on outward, with 20 ahead of its kinds if it came from a need");
        WiringHouse x = Desk.ready("type a; type b; type c; component k is a house { need b; } component l is b house { need all c; } component m is c house { opened fail 4; }");
        Desk.getFails(x, 0, 2, 4);
        x.close(0);
        Desk.getFails(x, 0, 1, 20, 4);
        x.close(0);
        Desk.getFails(x, 0, 0, 20, 20, 4);
        Desk.getFails(x, 0, 0, 15);
        // A CALL in opened that fails is no need that fails, nor is a late one's failure.
        WiringHouse y = Desk.ready("type a; type b; type c; component k is a house { need b; need late c; opened of 0.m(1) + of 1.m(1); } component l is b house { method m arg; method f 1; } component m is c house { opened fail 4; }");
        Desk.getFails(y, 0, 0, 4);
        WiringHouse z = Desk.ready("type a; type b; component k is a house { need b; opened of 0.m(1); } component l is b house { method m fail 8; }");
        Desk.getFails(z, 0, 0, 8);
        // 14, 15 of a need have 20 ahead, too; a late need's row goes on as it is.
        WiringHouse v = Desk.ready("type a; type b; type c; component n is a new { need b; } component m is b meal {} component u is c house { need late a; method p of 0.m(1); }");
        v.day();
        Desk.getFails(v, 1, 0, 20, 14);
        v.get(0, 2);
        Desk.callFails(v, 1, 1, "p", 20, 14);
    }

    private static void kinds() {
        Desk.says("A failure is a row of kinds: 1 .. 9 of fail, 11 NO METHOD, 12 to 16 as told; 20s ahead of it");
        StringBuilder text = new StringBuilder(Desk.times(24, "type t#;"));
        for (int c = 0; c < 23; c++) {
            text.append("component c" + c + " is t" + c + " new { need t" + (c + 1) + "; }");
        }
        text.append("component c23 is t23 new { opened fail 9; }");
        WiringHouse x = Desk.ready(text.toString());
        for (int c = 23; c >= 0; c--) {
            int[] row = new int[24 - c];
            java.util.Arrays.fill(row, 20);
            row[23 - c] = 9;
            Desk.getFails(x, 0, c, row);
        }
    }

    // ---- what was made for what failed

    private static void undone() {
        Desk.says("If get() .. ends in a failure, the objects that were made for it .. are closed, the one whose making ended latest first");
        String text = "type a; type b; type c; type d; type e; component k is a house { closed 1; } component l is b house { need a; closed 2; } component m is c house { closed fail 5; } component n is d new {} "
            + "component f is e house { need b; need c; need d; need d; opened fail 3; }";
        WiringHouse x = Desk.ready(text);
        // Begun: f 0, l 1, k 2, m 3, n 4 and 5; ended: k, l, m, n, n.
        Desk.getFails(x, 0, 4, 3);
        Desk.closed(x, row(5, 0), row(4, 0), row(3, 5), row(1, 0), row(2, 0));
        Desk.due("STEPS: six MAKINGS, fail, 1, 2, fail", x.count(10), 10);
        for (int o = 0; o <= 5; o++) {
            Desk.due("object " + o + " went", x.object(o, 2), 2);
        }
        Desk.due("nothing is there", x.count(7), 0);
        Desk.due("they are not spoiled", x.spoiled(0, 0) + x.spoiled(0, 1) + x.spoiled(0, 2), 0);
        Desk.due("they may be made", x.get(0, 1), 6);
        // Those that were there ahead stay.
        WiringHouse y = Desk.ready(text);
        y.get(0, 1);
        Desk.getFails(y, 0, 4, 3);
        Desk.closed(y, row(5, 0), row(4, 0), row(3, 5));
        Desk.due("l and k are there", y.object(0, 2) + y.object(1, 2), 2);
        // A failure in a need: those made ahead of it, for any on the way, are closed.
        WiringHouse z = Desk.ready("type a; type b; type c; type d; component k is a house {} component l is b house { opened fail 6; } component m is c house { need a; need b; } component n is d house { need a; need c; } component p is a house rank 1 {}");
        Desk.getFails(z, 0, 3, 20, 20, 6);
        Desk.closed(z, row(1, 0));
        Desk.due("p was made first, and closed", z.object(1, 0), 4);
    }

    private static void notUndone() {
        Desk.says("(not those made for a late need within, that was well)");
        WiringHouse x = Desk.ready("type a; type b; type c; type d; component k is a house { need b; need late c; opened of 1.m(1) * 0 + fail 3; } component l is b house {} component m is c house { need d; method m 1; } component n is d house {}");
        // Begun: k 0, l 1, m 2, n 3.
        Desk.getFails(x, 0, 0, 3);
        Desk.closed(x, row(1, 0));
        Desk.object(x, 2, 2, 0, 1);
        Desk.object(x, 3, 3, 0, 1);
        Desk.due("m is there", x.get(0, 2), 2);
        // One within that was well, of one that failed: m's opened gets o, and fails.
        WiringHouse y = Desk.ready("type a; type c; type d; type e; component k is a house { need late c; opened of 0.m(1); } component m is c house { need d; need late e; opened of 1.m(1) + fail 7; } component n is d house {} "
            + "component o is e house { method m 1; }");
        // Begun: k 0, m 1, n 2, o 3; n is undone, o stays.
        Desk.getFails(y, 0, 0, 7);
        Desk.closed(y, row(2, 0));
        Desk.object(y, 3, 3, 0, 1);
        Desk.due("k and m are spoiled", y.spoiled(0, 0) + y.spoiled(0, 1), 2);
        // A CALL of a late need that fails when its GET was well undoes nothing of it.
        WiringHouse z = Desk.ready("type a; type c; component k is a house { need late c; opened of 0.m(1); } component m is c house { method m fail 2; }");
        Desk.getFails(z, 0, 0, 2);
        Desk.closed(z);
        Desk.object(z, 1, 1, 0, 1);
    }

    private static void lateUndone() {
        Desk.says("If .. a call's late need ends in a failure, the objects that were made for it .. are closed");
        String text = "type a; type b; type c; type d; component k is a house { need late b; method m of 0.m(1); } component l is b house { need c; need d; opened fail 4; } component m is c house { closed fail 1; } component n is d new { } ";
        WiringHouse x = Desk.ready(text);
        x.get(0, 0);
        Desk.callFails(x, 0, 0, "m", 4);
        Desk.closed(x, row(3, 0), row(2, 1));
        Desk.due("k is there, no other", x.count(7), 1);
        Desk.due("l is spoiled", x.spoiled(0, 1), 1);
        // They are closed ahead of what goes on from the failure: a failing answers.
        WiringHouse y = Desk.ready(text.replace("closed fail 1", "need late a; closed of 0.n(1)").replace("method m of 0.m(1);", "method m of 0.m(1); method n 6;") + "wrap a.m 1 failing arg * 10;");
        y.get(0, 0);
        Desk.due("the failing answers", Desk.call(y, 0, 0, "m", 2), 40);
        Desk.did(y, row(4, 0, 2), row(4, 0, 1), row(3, 0, 4));
        Desk.closed(y, row(3, 0), row(2, 0));
        // Within a get(), too: what was made for the late need goes, what for get() stays, as get() is well.
        WiringHouse z = Desk.ready(text.replace("component k", "type z; component u is z house { need a; opened of 0.m(1); } component k") + "wrap a.m 1 failing 1;");
        Desk.due("u", z.get(0, 0), 0);
        Desk.closed(z, row(4, 0), row(3, 1));
        Desk.due("u and k", z.count(7), 2);
    }

    private static void spentUndoing() {
        Desk.says("if one of these closings is SPENT, all ends SPENT behind them");
        String dear = "component x is w house { method m " + "1+".repeat(99) + "1; }";
        String text = "type w; type a; type b; type c; type d; " + dear + "component k is a house { closed 1; } component l is b house { need w; closed " + "of 0.m(1)+".repeat(30) + "1; } component m is c house { closed fail 2; } "
            + "component f is d house { need a; need b; need c; opened fail 3; }";
        WiringHouse x = Desk.ready(text);
        x.get(0, 0);
        // Begun: w 0, f 1, k 2, l 3, m 4; m's closing fails, l's is SPENT, k's one STEP would be one too many, too.
        Desk.getEnds(x, 0, 4, 6);
        Desk.closed(x, row(4, 2), row(3, 18), row(2, 18));
        Desk.due("STEPS", x.count(10), 3000);
        Desk.due("w is there", x.count(7), 1);
        Desk.due("f is spoiled", x.spoiled(0, 4), 1);
        // The next failure is one, and nothing more.
        Desk.getFails(x, 0, 4, 15);
        // Within a late need: all ends, and the objects that are not made go; those that are made stay.
        WiringHouse y = Desk.ready(text + "type g; type h; component u is g house { need h; need late d; opened of 1.m(1); } component v is h house {} wrap g.m 1 failing 1;");
        y.get(0, 0);
        Desk.getEnds(y, 0, 5, 6);
        // Begun: w 0, u 1, v 2, f 3, k 4, l 5, m 6.
        Desk.closed(y, row(6, 2), row(5, 18), row(4, 18));
        Desk.object(y, 1, 5, 0, 2);
        Desk.object(y, 2, 6, 0, 1);
        Desk.due("u is not spoiled", y.spoiled(0, 5), 0);
        Desk.due("f is", y.spoiled(0, 4), 1);
        Desk.due("w and v are there", y.count(7), 2);
    }
}
