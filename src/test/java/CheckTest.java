/** Promises 6 to 10: check, fault, cycle, component, candidate. */
final class CheckTest {
    private CheckTest() {
    }

    public static void main(String[] args) {
        missing();
        doubled();
        shortOnes();
        cycles();
        many();
        components();
        candidates();
        Desk.finish("CheckTest");
    }

    private static void faults(String text, int[]... faults) {
        WiringHouse x = Desk.house(text);
        Desk.due("check of " + text, x.check(), faults.length);
        for (int i = 0; i < faults.length; i++) {
            for (int what = 0; what < 3; what++) {
                Desk.due("fault(" + i + ", " + what + ") of " + text, x.fault(i, what), faults[i][what]);
            }
            for (int k = 3; k < faults[i].length; k++) {
                Desk.due("cycle(" + i + ", " + (k - 3) + ") of " + text, x.cycle(i, k - 3), faults[i][k]);
            }
            Desk.due("no more on the cycle", x.cycle(i, faults[i].length - 3), -1);
            Desk.due("fault(" + i + ", 3)", x.fault(i, 3), -1);
            Desk.due("fault(" + i + ", -1)", x.fault(i, -1), -1);
            Desk.due("cycle(" + i + ", -1)", x.cycle(i, -1), -1);
        }
        Desk.due("no more faults", x.fault(faults.length, 0), -1);
        Desk.due("fault(-1, 0)", x.fault(-1, 0), -1);
        Desk.due("cycle(-1, 0)", x.cycle(-1, 0), -1);
        Desk.due("count(11)", x.count(11), faults.length);
        Desk.due("READY", x.count(8), faults.length == 0 ? 1 : 0);
        Desk.due("once more", x.check(), faults.length);
    }

    private static int[] row(int... fault) {
        return fault;
    }

    private static void missing() {
        faults("");
        faults("type a; type b; component c is a house { need b; }", row(1, 0, 0));
        faults("type a; type b; component c is a house { need all b; }");
        faults("type a; type b; component c is a house { need late b; }", row(1, 0, 0));
        faults("type a; type b; component c is a house { need b called w; } component d is b house called v {}", row(1, 0, 0));
        faults("type a; type b; component c is a house { need b called v; } component d is b house called v {}");
        faults("setting s 1; type a; type b; component c is a house when s 2 { need b; }");
        faults("setting s 1; type a; type b; component c is a house { need b; } component d is b house when s 2 {}", row(1, 0, 0));
        // What a type is like counts, on and on; what is like it does not.
        faults("type a; type b like a; type c like b; type z; component k is c house {} component d is z house { need a; }");
        faults("type a; type b like a; type z; component k is a house {} component d is z house { need b; }", row(1, 1, 0));
        faults("type a; type z; component k is a, z house {} component d is z house { need a; need z; need late z; }",
            row(2, 1, 1), row(2, 1, 2));
    }

    private static void doubled() {
        String two = "type a; type b; component k is a house rank 2 {} component l is a house rank 2 {} component m is a house rank 1 {}";
        faults(two + "component c is b house { need a; need all a; need late a; }", row(2, 3, 0), row(2, 3, 2));
        faults("type a; type b; component k is a house rank 2 {} component l is a house rank 3 {} component c is b house { need a; }");
        faults("type a; type b; component k is a house rank 0 {} component l is a house {} component c is b house { need a; }", row(2, 2, 0));
        // Only those called so compete in rank.
        faults("type a; type b; component k is a house called w {} component l is a house rank 3 {} component c is b house { need a called w; }");
    }

    private static void shortOnes() {
        String[] scopes = {"house", "day", "meal", "new"};
        for (int c = 0; c < 4; c++) {
            for (int k = 0; k < 4; k++) {
                boolean isShort = k != 3 && k > (c == 3 ? 2 : c);
                String text = "type a; type b; component k is a " + scopes[k] + " {} component c is b " + scopes[c] + " { need ";
                if (isShort) {
                    faults(text + "a; }", row(4, 1, 0));
                    faults(text + "all a; }", row(4, 1, 0));
                } else {
                    faults(text + "a; }");
                    faults(text + "all a; }");
                }
                faults(text + "late a; }");
            }
        }
        faults("type a; type b; component k is a day {} component l is a day {} component c is b house { need a; need all a; need late a; }",
            row(2, 2, 0), row(4, 2, 1), row(2, 2, 2));
        faults("type a; type b; component k is a house {} component l is a meal {} component c is b day { need all a; }", row(4, 2, 0));
    }

    private static void cycles() {
        faults("type a; component c is a house { need a; }", row(3, 0, 1, 0));
        faults("type a; component c is a house { need all a; }", row(3, 0, 1, 0));
        faults("type a; component c is a house { need late a; }");
        faults("type a; component c is a house { need a; need a; }", row(3, 0, 1, 0), row(3, 0, 1, 0));
        String ring = "type a; type b; type d; component k is a house { need b; } component l is b house { need d; } component m is d house { need ";
        faults(ring + "a; }", row(3, 0, 3, 0, 1, 2));
        faults(ring + "b; }", row(3, 1, 2, 1, 2));
        faults(ring + "late a; }");
        faults(ring + "b; need a; need d; }", row(3, 1, 2, 1, 2), row(3, 0, 3, 0, 1, 2), row(3, 2, 1, 2));
        // One that was left is not gone through again.
        faults("type a; type b; type d; component k is a house { need d; } component l is b house { need d; } component m is d house { need all d; }",
            row(3, 2, 1, 2));
        // SHORT needs are followed, MISSING and DOUBLED ones are not; CYCLES come behind all else.
        faults("type a; type b; component k is a house { need b; } component l is b day { need a; }", row(4, 0, 0), row(3, 0, 2, 0, 1));
        faults("type a; type b; component k is a house { need b; } component l is b house { need a; } component m is b house { need a called w; }",
            row(2, 0, 0), row(1, 2, 0));
        faults("setting s 1; type a; type b; component k is a house { need b; } component l is b house when s 1 { need a; } component m is b house rank 0 when s 2 { need b; }",
            row(3, 0, 2, 0, 1));
        // CANDIDATES of all in the order of numbers.
        faults("type a; type b; component k is b house { need all a; } component l is a house { need b; } component m is a house { need b; }",
            row(3, 0, 2, 0, 1), row(3, 0, 2, 0, 2));
    }

    private static void many() {
        WiringHouse x = Desk.house("type a; type b;" + Desk.times(20, "component c# is a house { need b; need b; need b; need b; need b; need b; need b; need b; }"));
        Desk.due("160 faults", x.check(), 160);
        Desk.due("count(11)", x.count(11), 160);
        Desk.due("fault 99 is told", x.fault(99, 1), 12);
        Desk.due("its need", x.fault(99, 2), 3);
        Desk.due("fault 100 is not", x.fault(100, 0), -1);
        WiringHouse y = Desk.house("type a;" + Desk.times(24, "component c# is a house { need all a; need all a; need all a; need all a; need all a; need all a; need all a; need all a; }"));
        Desk.due("edges back on one way", y.check(), 24 * 25 / 2 * 8);
        Desk.due("a cycle among the first 100", y.fault(99, 0), 3);
        Desk.due("READY", y.count(8), 0);
        WiringHouse z = Desk.house("setting s 1; type a; type b; component c is a house when s 1 { need b; }");
        Desk.due("a fault", z.check(), 1);
        Desk.due("set", z.setting(0, 2), true);
        Desk.due("what was told stays until the next check", z.fault(0, 0), 1);
        Desk.due("no fault", z.check(), 0);
        Desk.due("none is told", z.fault(0, 0), -1);
        Desk.due("READY stays", z.check() + z.count(8), 1);
    }

    private static void components() {
        WiringHouse x = Desk.house("setting s 3; type a; component h is a house { need a; need late a; need all a; }"
            + "component d is a day called w rank 9 when s 3 {} component m is a meal called v when s 4 {} component n is a new called w rank 1 {}");
        int[][] told = {{0, 0, 1, 3, -1}, {1, 9, 1, 0, 0}, {2, 0, 0, 0, 1}, {3, 1, 1, 0, 0}};
        for (int c = 0; c < told.length; c++) {
            for (int what = 0; what < 5; what++) {
                Desk.due("component(" + c + ", " + what + ")", Desk.component(x, c, what), told[c][what]);
            }
            Desk.due("another what", Desk.component(x, c, 5), Desk.THROWN);
            Desk.due("another what", Desk.component(x, c, -1), Desk.THROWN);
        }
        Desk.due("component(4)", Desk.component(x, 4, 0), Desk.THROWN);
        Desk.due("component(-1)", Desk.component(x, -1, 0), Desk.THROWN);
    }

    private static void candidates() {
        WiringHouse x = Desk.house("setting s 1; type a; type b like a; type z; component k is b house called w {} component l is a house rank 2 {}"
            + "component m is b day called w rank 2 {} component n is a house rank 2 when s 2 {} "
            + "component c is z house { need a; need all a; need a called w; need late b; need all b; need z; need a called v; }");
        int[][] told = {{1, 2}, {0, 1, 2}, {2}, {2}, {0, 2}, {4}, {}};
        for (int need = 0; need < told.length; need++) {
            for (int i = -1; i <= told[need].length; i++) {
                int want = i >= 0 && i < told[need].length ? told[need][i] : -1;
                Desk.due("candidate(4, " + need + ", " + i + ")", x.candidate(4, need, i), want);
            }
        }
        Desk.due("no such need", x.candidate(4, 7, 0), -1);
        Desk.due("no such need", x.candidate(4, -1, 0), -1);
        Desk.due("no such component", x.candidate(5, 0, 0), -1);
        Desk.due("no such component", x.candidate(-1, 0, 0), -1);
        Desk.due("a great i", x.candidate(4, 1, Integer.MAX_VALUE), -1);
        x.setting(0, 2);
        Desk.due("one more is THERE", x.candidate(4, 0, 2), 3);
        Desk.due("one more is THERE", x.candidate(4, 1, 3), 3);
    }
}
