/** Part 2 of the document's terms, CANDIDATES and CHECK: a test for each sentence that names an edge, with its words. */
final class Part2Test {
    private Part2Test() {
    }

    public static void main(String[] args) {
        under();
        there();
        candidates();
        ranks();
        missing();
        doubled();
        shortOnes();
        firstOfEach();
        order();
        cycles();
        followed();
        eachOnce();
        ready();
        Desk.finish("Part2Test");
    }

    private static int[] row(int... numbers) {
        return numbers;
    }

    /** The faults of a text: kind, component, need; of a CYCLE kind, first, how many, and all on it. */
    private static void faults(String text, int[]... faults) {
        WiringHouse x = Desk.house(text);
        told(x, text, faults);
    }

    private static void told(WiringHouse x, String text, int[]... faults) {
        Desk.due("check of " + text, x.check(), faults.length);
        for (int i = 0; i < faults.length; i++) {
            for (int what = 0; what < 3; what++) {
                Desk.due("fault(" + i + ", " + what + ") of " + text, x.fault(i, what), faults[i][what]);
            }
            for (int k = 3; k < faults[i].length; k++) {
                Desk.due("cycle(" + i + ", " + (k - 3) + ") of " + text, x.cycle(i, k - 3), faults[i][k]);
            }
            Desk.due("cycle(" + i + ", " + (faults[i].length - 3) + ") of " + text, x.cycle(i, faults[i].length - 3), -1);
        }
        Desk.due("fault(" + faults.length + ", 0) of " + text, x.fault(faults.length, 0), -1);
    }

    /** All CANDIDATES of a need of a component, in order. */
    private static void found(WiringHouse x, int c, int need, int... candidates) {
        for (int i = 0; i < candidates.length; i++) {
            Desk.due("candidate(" + c + ", " + need + ", " + i + ")", x.candidate(c, need, i), candidates[i]);
        }
        Desk.due("candidate(" + c + ", " + need + ", " + candidates.length + ")", x.candidate(c, need, candidates.length), -1);
    }

    private static void under() {
        Desk.says("A component is UNDER its TYPES, and those that these are like, and so on.");
        String types = "type a; type b like a; type c like b; type d; type e like c, d; type z;";
        WiringHouse x = Desk.house(types + "component ka is a house {} component kb is b house {} component kc is c house {} component kd is d house {} component ke is e house {} "
            + "component kdb is d, b house {} component n is z house { need all a; need all b; need all c; need all d; need all e; need all z; }");
        found(x, 6, 0, 0, 1, 2, 4, 5);
        found(x, 6, 1, 1, 2, 4, 5);
        found(x, 6, 2, 2, 4);
        found(x, 6, 3, 3, 4, 5);
        found(x, 6, 4, 4);
        found(x, 6, 5, 6);
        // A chain through all 24 types, and a fan through a list.
        StringBuilder chain = new StringBuilder("type t0;");
        for (int t = 1; t < 24; t++) {
            chain.append("type t" + t + " like t" + (t - 1) + ";");
        }
        WiringHouse y = Desk.house(chain + "component k is t23 house {} component l is t0 house { need all t0; need all t1; need all t23; }");
        found(y, 1, 0, 0, 1);
        found(y, 1, 1, 0);
        found(y, 1, 2, 0);
        // A type that is told as like one behind it is not like those told later.
        faults("type a; type b like a; component k is a house {} component l is a house rank 1 { need b; }", row(1, 1, 0));
    }

    private static void there() {
        Desk.says("It is THERE if it has no when, or its SETTING is that N.");
        WiringHouse x = Desk.house("setting s 3; setting t 0; type a; component p is a house {} component q is a house when s 3 {} component r is a house when s 4 {} component u is a house when t 0 {} "
            + "component v is a house when t 3 {}");
        int[] now = {1, 1, 0, 1, 0};
        int[] then = {1, 0, 1, 0, 1};
        int[] last = {1, 0, 0, 0, 0};
        for (int c = 0; c < 5; c++) {
            Desk.due("THERE at first: " + c, x.component(c, 2), now[c]);
        }
        x.setting(0, 4);
        x.setting(1, 3);
        for (int c = 0; c < 5; c++) {
            Desk.due("THERE then: " + c, x.component(c, 2), then[c]);
        }
        x.setting(0, -3);
        x.setting(1, Integer.MIN_VALUE);
        for (int c = 0; c < 5; c++) {
            Desk.due("THERE at last: " + c, x.component(c, 2), last[c]);
        }
        WiringHouse y = Desk.house("setting s 0; type a; component c is a house when s 999999999 {}");
        Desk.due("not THERE", y.component(0, 2), 0);
        y.setting(0, 999999999);
        Desk.due("THERE", y.component(0, 2), 1);
    }

    private static void candidates() {
        Desk.says("A need's CANDIDATES are the components THERE that are UNDER its TYPE, and called so, if it says how");
        WiringHouse x = Desk.house("setting s 1; type a; type b; component k is a house called v {} component l is a house called w {} component m is a house {} component n is a house called w when s 2 {} "
            + "component o is b house called w {} component c is b house { need all a; need a; need a called w; need late a called v; need a called u; need b called w; }");
        found(x, 5, 0, 0, 1, 2);
        found(x, 5, 1, 0, 1, 2);
        found(x, 5, 2, 1);
        found(x, 5, 3, 0);
        found(x, 5, 4);
        found(x, 5, 5, 4);
        x.setting(0, 2);
        found(x, 5, 0, 0, 1, 2, 3);
        found(x, 5, 2, 1, 3);
        // A component may be a CANDIDATE of its own need; one that is not THERE has CANDIDATES, too.
        WiringHouse y = Desk.house("setting s 1; type a; component c is a house { need a; } component d is a house when s 2 { need all a; }");
        found(y, 0, 0, 0);
        found(y, 1, 0, 0);
        // All 24 of them.
        WiringHouse z = Desk.house("type a;" + Desk.times(23, "component c# is a house {}") + "component c is a house { need all a; need a; }");
        for (int i = 0; i < 24; i++) {
            Desk.due("candidate(23, 0, " + i + ")", z.candidate(23, 0, i), i);
            Desk.due("candidate(23, 1, " + i + ")", z.candidate(23, 1, i), i);
        }
        Desk.due("no 25th", z.candidate(23, 0, 24), -1);
    }

    private static void ranks() {
        Desk.says("without all: those of them with the greatest rank (0 if none is told)");
        String text = "type a; type b; component k is a house {} component l is a house rank 0 {} component m is a house rank # {} component n is a house called w rank 9 when s 2 {} "
            + "component o is b house { need a; need late a; need all a; }";
        for (int rank = 0; rank <= 9; rank++) {
            WiringHouse x = Desk.house("setting s 1;" + text.replace("#", Integer.toString(rank)));
            for (int need = 0; need < 2; need++) {
                if (rank == 0) {
                    found(x, 4, need, 0, 1, 2);
                } else {
                    found(x, 4, need, 2);
                }
            }
            found(x, 4, 2, 0, 1, 2);
        }
        // A greater rank that is not THERE, not UNDER or not called so does not count.
        WiringHouse y = Desk.house("setting s 1; type a; type b; component k is a house called w rank 1 {} component l is a house rank 5 {} component m is a house called w rank 7 when s 2 {} "
            + "component n is b house called w rank 9 { need a called w; need a; }");
        found(y, 3, 0, 0);
        found(y, 3, 1, 1);
        // A lesser one behind a greater one, and a greater one behind a lesser one.
        WiringHouse z = Desk.house("type a; type b; component k is a house rank 2 {} component l is a house rank 1 {} component m is a house rank 2 {} component n is a house rank 3 {} "
            + "component o is a house rank 3 {} component p is a house rank 2 {} component c is b house { need a; }");
        found(z, 6, 0, 3, 4);
    }

    private static void missing() {
        Desk.says("1 MISSING: no CANDIDATE (not of all)");
        String text = "type a; type b; component c is a house { need #; }";
        faults(text.replace("#", "b"), row(1, 0, 0));
        faults(text.replace("#", "late b"), row(1, 0, 0));
        faults(text.replace("#", "b called w"), row(1, 0, 0));
        faults(text.replace("#", "all b"));
        faults(text.replace("#", "a called w"), row(1, 0, 0));
        faults("setting s 1; type a; type b; component c is a house { need b; } component d is b house when s 2 {}", row(1, 0, 0));
    }

    private static void doubled() {
        Desk.says("2 DOUBLED: more than one (likewise)");
        String text = "type a; type b; component k is b house {} component l is b house {} component c is a house { need #; }";
        faults(text.replace("#", "b"), row(2, 2, 0));
        faults(text.replace("#", "late b"), row(2, 2, 0));
        faults(text.replace("#", "all b"));
        faults(text.replace("k is b house", "k is b house rank 1").replace("#", "b"));
        faults(text.replace("k is b house", "k is b house called w").replace("#", "b called w"));
        faults(text.replace("house {}", "house called w {}").replace("#", "b called w"), row(2, 2, 0));
    }

    private static void shortOnes() {
        Desk.says("4 SHORT: not late, and some CANDIDATE's SCOPE is shorter than the component's (house is longer than day, that than meal; NEW is neither, and as a component's it is as long as meal)");
        String[] scopes = {"house", "day", "meal", "new"};
        boolean[][] isShort = {{false, true, true, false}, {false, false, true, false}, {false, false, false, false}, {false, false, false, false}};
        for (int c = 0; c < 4; c++) {
            for (int k = 0; k < 4; k++) {
                String text = "type a; type b; component k is a " + scopes[k] + " {} component c is b " + scopes[c] + " { need #; }";
                int[][] due = isShort[c][k] ? new int[][] {row(4, 1, 0)} : new int[0][];
                faults(text.replace("#", "a"), due);
                faults(text.replace("#", "all a"), due);
                faults(text.replace("#", "late a"));
            }
        }
        // One that is shorter is enough; it is one fault.
        faults("type a; type b; component k is a house {} component l is a meal {} component m is a new {} component n is a day {} component c is b day { need all a; }", row(4, 4, 0));
        faults("type a; type b; component k is a house {} component l is a day {} component m is a new {} component c is b day { need all a; }");
        // One that is no CANDIDATE by its rank does not count.
        faults("type a; type b; component k is a house rank 1 {} component l is a meal {} component c is b house { need a; }");
    }

    private static void firstOfEach() {
        Desk.says("Of each need the first of these.");
        faults("type a; type b; component k is a day {} component l is a meal {} component c is b house { need a; need late a; need all a; }", row(2, 2, 0), row(2, 2, 1), row(4, 2, 2));
        faults("type a; type b; component k is a day {} component c is b house { need a; need a; }", row(4, 1, 0), row(4, 1, 1));
    }

    private static void order() {
        Desk.says("Going through the components THERE, by numbers, and their needs, in order .. Then 3 CYCLE");
        faults("setting s 1; type a; type b; type d; component k is a house { need a; need b; need a; } component l is a house when s 2 { need b; } component m is d day { need late b; need d; } "
            + "component n is d house rank 1 { need d; need all a; }",
            row(1, 0, 1), row(1, 2, 0), row(3, 0, 1, 0), row(3, 0, 1, 0), row(3, 3, 1, 3));
        faults("type a; type b; component k is a house { need a; } component l is b house { need a called w; }", row(1, 1, 0), row(3, 0, 1, 0));
    }

    private static void cycles() {
        Desk.says("each time that one is met which is still under way: those from it on, to the one that needs it");
        String three = "type a; type b; type c; component k is a house { need b; } component l is b house { need c; } component m is c house { need #; }";
        faults(three.replace("#", "a"), row(3, 0, 3, 0, 1, 2));
        faults(three.replace("#", "b"), row(3, 1, 2, 1, 2));
        faults(three.replace("#", "c"), row(3, 2, 1, 2));
        faults(three.replace("#", "c; need b; need a"), row(3, 2, 1, 2), row(3, 1, 2, 1, 2), row(3, 0, 3, 0, 1, 2));
        faults(three.replace("#", "a; need a"), row(3, 0, 3, 0, 1, 2), row(3, 0, 3, 0, 1, 2));
        // It begins with the one that is met first, by numbers, not with the least on it.
        faults("type a; type b; type c; component k is a house { need c; } component l is b house { need c; } component m is c house { need b; }", row(3, 2, 2, 2, 1));
        Desk.says("their CANDIDATES in order");
        faults("type a; type b; component k is b house { need all a; } component l is a house { need b; } component m is a house { need b; }", row(3, 0, 2, 0, 1), row(3, 0, 2, 0, 2));
        faults("type a; type b; component l is a house { need b; } component k is b house { need all a; } component m is a house { need b; }", row(3, 0, 2, 0, 1), row(3, 1, 2, 1, 2));
        // As long as can be: all 24 on it.
        StringBuilder ring = new StringBuilder(Desk.times(24, "type t#;"));
        for (int c = 0; c < 24; c++) {
            ring.append("component c" + c + " is t" + c + " house { need t" + (c + 1) % 24 + "; }");
        }
        int[] whole = new int[27];
        whole[0] = 3;
        whole[2] = 24;
        for (int c = 0; c < 24; c++) {
            whole[3 + c] = c;
        }
        faults(ring.toString(), whole);
    }

    private static void followed() {
        Desk.says("depth first along needs that are not late and have no fault 1, 2");
        faults("type a; component k is a house { need late a; }");
        faults("type a; type b; component k is a house { need b; } component l is b house { need late a; }");
        faults("type a; type b; component k is a house { need b; } component l is b house { need a; } component m is b house {}", row(2, 0, 0));
        faults("type a; type b; component k is a house { need b called w; } component l is b house { need a; }", row(1, 0, 0));
        // With fault 4 it is gone along.
        faults("type a; type b; component k is a house { need b; } component l is b meal { need a; }", row(4, 0, 0), row(3, 0, 2, 0, 1));
        faults("type a; type b; component k is a house { need all b; } component l is b meal { need all a; }", row(4, 0, 0), row(3, 0, 2, 0, 1));
        // Those that are not THERE are not gone through.
        faults("setting s 1; type a; component k is a house when s 2 { need a; }");
        faults("setting s 1; type a; type b; component k is a house { need all b; } component l is b house when s 2 { need a; }");
        // NEW ones and those of all SCOPES are gone along alike.
        for (String scope : new String[] {"house", "day", "meal", "new"}) {
            faults("type a; component k is a " + scope + " { need a; }", row(3, 0, 1, 0));
        }
    }

    private static void eachOnce() {
        Desk.says("going through the components THERE, by numbers, each once");
        // Both k and l come to m and its ring with n: it is told once.
        faults("type a; type b; type c; type d; component k is a house { need c; } component l is b house { need c; } component m is c house { need d; } component n is d house { need c; }",
            row(3, 2, 2, 2, 3));
        // One that was left is met again: no CYCLE.
        faults("type a; type b; type c; component k is a house { need b; need c; } component l is b house { need c; } component m is c house {}");
        // Two rings with nothing in common, each told once.
        faults("type a; type b; type c; type d; component k is a house { need b; } component l is b house { need a; } component m is c house { need d; } component n is d house { need c; }",
            row(3, 0, 2, 0, 1), row(3, 2, 2, 2, 3));
    }

    private static void ready() {
        Desk.says("If CHECK tells no fault the house is READY: settings stay as they are.");
        WiringHouse x = Desk.house("setting s 1; type a; type b; component k is a house when s 1 { need b; } component l is b house when s 2 {}");
        told(x, "s 1", row(1, 0, 0));
        Desk.due("READY", x.count(8), 0);
        Desk.due("a setting", x.setting(0, 2), true);
        told(x, "s 2");
        Desk.due("READY", x.count(8), 1);
        Desk.due("a setting", x.setting(0, 1), false);
        Desk.due("it stays 2: k", x.component(0, 2), 0);
        Desk.due("it stays 2: l", x.component(1, 2), 1);
        told(x, "once more");
        Desk.due("READY", x.count(8), 1);
    }
}
