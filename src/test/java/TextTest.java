/** Promises 1 to 5: a new object, feed, book, named, setting. */
final class TextTest {
    private TextTest() {
    }

    public static void main(String[] args) {
        newObject();
        feeding();
        tokens();
        statements();
        expressions();
        limits();
        full();
        again();
        taking();
        naming();
        settings();
        Desk.finish("TextTest");
    }

    private static void newObject() {
        WiringHouse x = new WiringHouse();
        int[] counts = {0, 0, 0, 0, 0, 1, 0, 0, 0, 0, 0, 0, 0};
        for (int what = 0; what < counts.length; what++) {
            Desk.due("new: count(" + what + ")", x.count(what), counts[what]);
        }
        Desk.due("new: outcome", x.outcome(), 0);
        Desk.due("new: cause", x.cause(0), 0);
        Desk.due("new: component", Desk.component(x, 0, 0), Desk.THROWN);
        Desk.due("new: object", Desk.object(x, 0, 0), Desk.THROWN);
        Desk.due("new: day", x.day(), -1);
        Desk.due("new: check", x.check(), 0);
        Desk.due("new: READY", x.count(8), 1);
        Desk.due("new: day when READY", x.day(), 1);
        Desk.due("NONE", WiringHouse.NONE, -1);
    }

    private static void feeding() {
        WiringHouse x = new WiringHouse();
        Desk.due("feed of zeros", x.feed(0, 0, 0), 0);
        Desk.due("feed of letters", x.feed(0x6162636465666768L, 0x696a6b6c6d6e6f70L, 0x7172737475767778L), 24);
        Desk.due("the highest byte first", Desk.named(x, "", 3), -1);
        Desk.due("tape taken by named", x.count(12), 0);
        Desk.due("10, 32, 126 come", x.feed(0x0a207e0000000000L, 0, 0), 3);
        Desk.due("9, 11, 31, 127, 128, 255 are left out", x.feed(0x090b1f7f80ff0d00L, -1, 0), 3);
        x.book();
        for (int i = 0; i < 166; i++) {
            x.feed(0x2020202020202020L, 0x2020202020202020L, 0x2020202020202020L);
        }
        Desk.due("signs fed", x.count(12), 3984);
        Desk.due("what is beyond 4,000 is left out", x.feed(0x2020202020202020L, 0x2020202020202020L, 0x6161616161616161L), 4000);
        Desk.due("a full tape", x.feed(0x6161616161616161L, 0, 0), 4000);
        Desk.due("4,000 blanks are a book", x.book(), 0);
        WiringHouse y = new WiringHouse();
        y.feed(0x7479706520610062L, 0x3b00000000000000L, 0);
        Desk.due("bytes in order", y.book(), 0);
        Desk.due("the name without the byte left out", Desk.named(y, "ab", 0), 0);
    }

    private static void tokens() {
        Desk.fine("");
        Desk.fine(" \n ");
        Desk.fine("type a;type b like a;");
        Desk.fine("type\na\n;");
        Desk.fine("type abcdefghijkl;");
        Desk.fault(1, "type ^abcdefghijklm;");
        Desk.fault(1, "type ^Abc;");
        Desk.fault(1, "type a^Bc;");
        Desk.fault(1, "type ^1a;");
        Desk.fine("type a1;");
        Desk.fine("setting a 999999999;");
        Desk.fault(1, "setting a ^1234567890;");
        Desk.fault(1, "^type1 a;");
        Desk.fine("type t;component c is t house rank 3{opened 1<2;}");
        Desk.fine("setting s 7;type t;component c is t house rank 1when s 7{}");
        Desk.fault(1, "^#");
        Desk.fault(1, "type a^!;");
        Desk.due("an end within blanks is at the text's length", Desk.book(new WiringHouse(), "type a  "), 1 + 16 * 8);
    }

    private static void statements() {
        Desk.fault(1, "^a;");
        Desk.fault(1, "^;");
        Desk.fault(1, "^like;");
        Desk.fault(1, "type ^type;");
        Desk.fault(1, "type ^house;");
        Desk.fault(1, "type ^failing;");
        Desk.fault(1, "type a^");
        Desk.fault(1, "type a ^b;");
        Desk.fault(2, "type a like ^a;");
        Desk.fault(2, "type a like ^b;");
        Desk.fault(3, "type a; type ^a;");
        Desk.fault(3, "setting a 1; type ^a;");
        Desk.fault(3, "type a; setting ^a 1;");
        Desk.fault(3, "type a; component ^a is a house {}");
        Desk.fault(3, "type a; component b is a house {} type ^b;");
        Desk.fault(3, "type a; type b like a, ^a;");
        Desk.fault(3, "type a; component b is a, ^a house {}");
        Desk.fault(2, "setting s 1; type b like ^s;");
        Desk.fault(1, "setting s ^;");
        Desk.fault(1, "setting s ^- 1;");
        Desk.fault(1, "type a; component b ^a house {}");
        Desk.fault(1, "type a; component b is a ^{}");
        Desk.fault(1, "type a; component b is a ^before {}");
        Desk.fault(1, "type a; component b is a house {^");
        Desk.fault(1, "type a; component b is a house ^;");
        Desk.fault(1, "type a; component b is a house {} ^}");
        Desk.fault(4, "type a; component b is a house rank ^10 {}");
        Desk.fine("type a; component b is a house rank 9 {}");
        Desk.fault(2, "type a; component b is a house when ^s 1 {}");
        Desk.fault(2, "type a; component b is a house when ^a 1 {}");
        Desk.fault(1, "setting s 1; type a; component b is a house when s 1 ^rank 1 {}");
        Desk.fine("setting s 1; type a; component b is a house called x rank 1 when s 1 {}");
        Desk.fault(1, "type a; component b is a house called ^new {}");
        Desk.fine("type a; component b is a new called a { method a arg; method b arg; }");
        Desk.fault(2, "type a; component b is a house { need ^b; }");
        Desk.fault(1, "type a; component b is a house { need all a ^called x; }");
        Desk.fault(1, "type a; component b is a house { need late ^all a; }");
        Desk.fine("type a; component b is a house { need late a called x; need all a; need a; }");
        Desk.fault(1, "type a; component b is a house { opened 1; ^opened 1; }");
        Desk.fault(1, "type a; component b is a house { closed 1; opened 1; ^closed 1; }");
        Desk.fault(3, "type a; component b is a house { method m 1; method ^m 1; }");
        Desk.fine("type a; component b is a house { method m 1; } component c is a house { method m 1; }");
        Desk.fault(1, "type a; component b is a house { ^type c; }");
        Desk.fine("type a; wrap a.m 99 before 1; wrap a . m 0 around go(arg); wrap a.m 5 after arg; wrap a.m 5 failing arg;");
        Desk.fault(2, "wrap ^a.m 1 before 1;");
        Desk.fault(4, "type a; wrap a.m ^100 before 1;");
        Desk.fault(1, "type a; wrap a^,m 1 before 1;");
        Desk.fault(1, "type a; wrap a.m 1 ^house 1;");
        Desk.fault(1, "type a; wrap a.m 1 before ^;");
        Desk.fault(1, "type a; wrap a.m 1 before 1^");
        Desk.fault(1, "type a; wrap a.m 1 before 1 ^type b;");
    }

    private static String inMethod(String e) {
        return "setting s 1; type a; component b is a house { need a; need late a; method m " + e + "; }";
    }

    private static void expressions() {
        for (String e : new String[] {"1", "arg", "(1)", "-1", "- - 1", "fail 1", "fail 9", "setting s", "pick(1,2,3)",
            "of 0.m(1)", "of 1 . n ( arg )", "1+2-3*4", "1<2", "1=2", "(1<2)=(3<4)", "-arg*-(2)", "pick(1<2,3=4,arg)"}) {
            Desk.fine(inMethod(e));
        }
        for (String e : new String[] {"^", "^)", "1^)", "(1^", "(^)", "1 ^2", "1+^", "1*^*2", "1<2^<3", "1=2^=3", "^+1",
            "fail ^arg", "pick ^1,2,3)", "pick(1,2^)", "pick(1,2,3^,4)", "of ^arg.m(1)", "of 0^(1)", "of 0.^1(1)",
            "of 0.m^;", "^go(1)", "^m", "^need", "setting ^1", "1^a"}) {
            Desk.fault(1, e.endsWith("^;") ? inMethod(e.substring(0, e.length() - 1)) : inMethod(e));
        }
        Desk.fault(4, inMethod("fail ^0"));
        Desk.fault(4, inMethod("fail ^10"));
        Desk.fault(4, inMethod("of ^2.m(1)"));
        Desk.fault(4, "type a; component b is a house { method m of ^0.m(1); need a; }");
        Desk.fault(2, inMethod("setting ^t"));
        Desk.fault(2, inMethod("setting ^a"));
        Desk.fault(1, "type a; wrap a.m 1 before ^of 0.m(1);");
        Desk.fault(1, "type a; wrap a.m 1 before ^go(1);");
        Desk.fault(1, "type a; wrap a.m 1 failing ^go(1);");
        Desk.fault(1, "type a; wrap a.m 1 around ^of 0.m(1);");
        Desk.fine("type a; wrap a.m 1 around go(go(1))+go(2);");
        Desk.fine(inMethod("-------1"));
        Desk.fault(5, inMethod("--------^1"));
        Desk.fault(1, inMethod("--------^)"));
        Desk.fine(inMethod("(((((((1)))))))"));
        Desk.fault(5, inMethod("((((((((^1))))))))"));
        Desk.fine(inMethod("of 0.m(of 0.m(pick(1,2,-(-(3)))))"));
        for (String around : new String[] {"pick(#,1,1)", "pick(1,#,1)", "pick(1,1,#)", "of 0.m(#)", "(#)", "-#"}) {
            Desk.fine(inMethod(around.replace("#", "((((((1))))))")));
            Desk.fault(5, inMethod(around.replace("#", "(((((((^1)))))))")));
            Desk.fine(inMethod("((((((" + around.replace("#", "1") + "))))))"));
        }
        for (String eighth : new String[] {"pick(^1,1,1)", "of 0.m(^1)", "(^1)", "-^1"}) {
            Desk.fault(5, inMethod("(((((((" + eighth + ")))))))"));
        }
        Desk.fault(5, "type a; wrap a.m 1 around go(go(go(go(go(go(go(go(^1))))))));");
        Desk.fine("type a; wrap a.m 1 around go(go(go(go(go(go(go(1)))))));");
        Desk.fault(5, inMethod("of 0.m(of 0.m(pick(1,2,-(-(-^(3))))))"));
    }

    private static void full() {
        WiringHouse x = new WiringHouse();
        Desk.due("4,000 tokens", Desk.feed(x, Desk.times(4000, ";")), 4000);
        Desk.due("the first is wrong", x.book(), 1);
        Desk.due("4,000 tokens", Desk.feed(x, Desk.times(4000, ";")), 4000);
        Desk.due("no word", x.named(0), -1);
        x = new WiringHouse();
        String head = "type a;component c is a new{method m ";
        int terms = (4000 - head.length() - 2) / 2;
        String text = head + Desk.times(terms - 1, "1+") + "1;}";
        Desk.due("a full text", Desk.feed(x, text), text.length());
        Desk.due("it is a book", x.book(), 0);
        x.check();
        Desk.due("its sum", x.call(0, x.get(0, 0), 0, 0), terms);
        String minus = head + Desk.times(430, "-------1+") + "1;}";
        Desk.due("a full text", Desk.feed(x, minus), minus.length());
        Desk.due("it is a book", x.book(), 0);
        x.check();
        Desk.due("too many steps", x.call(0, x.get(0, 0), 0, 0), 0);
        Desk.due("outcome", x.outcome(), 6);
    }

    /** A book is read into what an earlier one has left, and nothing of that may be seen. */
    private static void again() {
        WiringHouse x = new WiringHouse();
        String rich = "setting s 1; setting r 2; type a; type b like a; component c is a, b meal called w rank 3 when s 2 { need a; need late b; opened fail 1; closed fail 2; method m fail 3; method n 1; }"
            + "component d is a house {} wrap a.m 1 before 2; wrap a.m 1 around 3; wrap b.m 2 around 4;";
        String plain = "type z; component y is z house { method m arg; }";
        for (int i = 0; i < 4; i++) {
            Desk.due("a rich book", Desk.book(x, rich), 0);
            Desk.due("a rich book", Desk.book(x, rich), 0);
            Desk.due("a fault within a component", Desk.book(x, "type q; component p is q house { need"), 1 + 16 * 37);
            Desk.due("a plain book", Desk.book(x, plain), 0);
            int[] counts = {1, 0, 1, 1, 0};
            for (int what = 0; what < counts.length; what++) {
                Desk.due("count(" + what + ")", x.count(what), counts[what]);
            }
            int[] told = {0, 0, 1, 0, -1};
            for (int what = 0; what < told.length; what++) {
                Desk.due("component(0, " + what + ")", Desk.component(x, 0, what), told[what]);
            }
            Desk.due("an old word", Desk.named(x, "w", 4), -1);
            Desk.due("an old setting", Desk.named(x, "s", 1), -1);
            Desk.due("check", x.check(), 0);
            Desk.due("get", x.get(0, 0), 0);
            Desk.due("call", x.call(0, 0, 0, 7), 7);
            Desk.due("close", x.close(0), 1);
            Desk.due("closed", x.closed(0, 1), 0);
            Desk.due("a rich book with two arounds of a METHOD", Desk.book(x, rich), 0);
            Desk.due("three are too many", Desk.book(x, rich + "wrap a.m 3 around 1;"), 5 + 16 * (rich.length() + 11));
        }
    }

    private static void limits() {
        String types = Desk.times(24, "type t#;");
        Desk.fine(types);
        Desk.fault(5, types + "^type t24;");
        Desk.fault(5, types + "^type 1");
        String list = "t0,t1,t2,t3,t4,t5";
        Desk.fine(types + "component c is " + list + " house {}");
        Desk.fault(5, types + "component c is " + list + ",^t6 house {}");
        Desk.fault(3, types + "component c is " + list + ",^t5 house {}");
        Desk.fault(2, types + "component c is " + list + ",^x house {}");
        Desk.fault(5, Desk.times(7, "type t#;") + "type x like " + list + ",^t6;");
        String settings = Desk.times(12, "setting s# #;");
        Desk.fine(settings);
        Desk.fault(5, settings + "^setting s12 1;");
        String components = "type t;" + Desk.times(24, "component c# is t day {}");
        Desk.fine(components);
        Desk.fault(5, components + " ^component c24 is t day {}");
        String methods = "type t; component c is t new { need t;" + Desk.times(20, "method m# 1;");
        Desk.fine(methods + "}");
        Desk.fault(5, methods + "method ^m20 1;}");
        Desk.fault(3, methods + "method ^m19 1;}");
        Desk.fault(5, methods + "opened of 0.^m20(1);}");
        Desk.fine(methods + "opened of 0.m19(1);}");
        Desk.fault(5, methods + "} wrap t.^m20 1 before 1;");
        String words = "type t; component c is t new {}" + Desk.times(20, "component c# is t new called w# {}");
        Desk.fine(words);
        Desk.fault(5, words + "component d is t new called ^w20 {}");
        Desk.fault(5, words + "component d is t new { need t called ^w20; }");
        Desk.fine(words + "component d is t new called w19 {}");
        String wraps = "type t;" + Desk.times(12, "wrap t.m 1 before 1;");
        Desk.fine(wraps);
        Desk.fault(5, wraps + "^wrap t.m 1 before 1;");
        String arounds = "type t; type u; wrap t.m 1 around 1; wrap u.m 2 around 1;";
        Desk.fine(arounds + "wrap t.n 1 around 1;");
        Desk.fault(5, arounds + "wrap t.m 1 ^around 1;");
        String needs = "type t; component c is t new {" + Desk.times(8, "need all t;");
        Desk.fine(needs + "}");
        Desk.fault(5, needs + "^need all t;}");
    }

    private static void taking() {
        WiringHouse x = Desk.ready("type a; setting s 5; component c is a house { method m 1; }");
        x.day();
        x.get(0, 0);
        x.call(0, 0, 0, 1);
        int steps = x.count(9);
        Desk.due("steps", steps, 3);
        Desk.due("a book with a fault", Desk.book(x, "type b"), 1 + 16 * 6);
        Desk.due("its tape is taken", x.count(12), 0);
        Desk.due("the old book stays", Desk.named(x, "a", 0), 0);
        Desk.due("the old objects stay", x.count(7), 1);
        Desk.due("READY stays", x.count(8), 1);
        Desk.due("what was done stays", x.did(0, 0), 4);
        x.get(7, 0);
        Desk.due("outcome", x.outcome(), 3);
        x.close(0);
        Desk.due("a new book", Desk.book(x, "type b; component d is b day { need b called x; }"), 0);
        int[] counts = {1, 0, 1, 0, 0, 1, 0, 0, 0, steps, 0, 0, 0};
        for (int what = 0; what < counts.length; what++) {
            Desk.due("after a new book: count(" + what + ")", x.count(what), counts[what]);
        }
        Desk.due("the old name went", Desk.named(x, "a", 0), -1);
        Desk.due("the old method went", Desk.named(x, "m", 3), -1);
        Desk.due("outcome is 0", x.outcome(), 0);
        Desk.due("nothing was done", x.did(0, 0), -1);
        Desk.due("nothing was closed", x.closed(0, 0), -1);
        Desk.due("no object", Desk.object(x, 0, 0), Desk.THROWN);
        Desk.due("check", x.check(), 1);
        Desk.due("a fault is told", x.fault(0, 0), 1);
        Desk.due("an empty book", x.book(), 0);
        Desk.due("no fault is told", x.fault(0, 0), -1);
        Desk.due("no components", x.count(2), 0);
    }

    private static void naming() {
        WiringHouse x = Desk.house("type aa; type ab; setting sa 1; setting sb 2; component ca is aa house called wa { method ma 1; need ab called wb; opened of 0.mb(1); }"
            + "component cb is ab house {} wrap aa.mc 1 before 1;");
        String[][] words = {{"aa", "ab"}, {"sa", "sb"}, {"ca", "cb"}, {"ma", "mb", "mc"}, {"wa", "wb"}};
        for (int sort = 0; sort < words.length; sort++) {
            for (int k = 0; k < words[sort].length; k++) {
                for (int asked = -1; asked <= 5; asked++) {
                    Desk.due("named " + words[sort][k] + " as " + asked, Desk.named(x, words[sort][k], asked), asked == sort ? k : -1);
                }
            }
        }
        String[] alike = {"a", "aa", "aaa", "a0", "a1", "a9", "b", "b0", "az", "z9", "zz", "zzzzzzzzzzzz", "z99999999999", "a00000000000", "aaaaaaaaaaaa",
            "aaaaaaaaaaab", "baaaaaaaaaaa", "azzzzzzzzzzz", "types", "typ", "newer", "goo", "isis", "o1f"};
        WiringHouse y = Desk.house("type " + String.join(";type ", alike) + ";");
        for (int k = 0; k < alike.length; k++) {
            Desk.due("named " + alike[k], Desk.named(y, alike[k], 0), k);
        }
        for (String none : new String[] {"ab", "a00", "aaaaaaaaaaa", "zzzzzzzzzzzzz", "q", "a2"}) {
            Desk.due("named " + none, Desk.named(y, none, 0), -1);
        }
        Desk.due("blanks around it", Desk.named(x, " \n ab ", 0), 1);
        Desk.due("two words", Desk.named(x, "aa ab", 0), -1);
        Desk.due("a word and a sign", Desk.named(x, "aa;", 0), -1);
        Desk.due("a sign first", Desk.named(x, ";aa", 0), -1);
        Desk.due("no word", Desk.named(x, "", 0), -1);
        Desk.due("a number", Desk.named(x, "1", 0), -1);
        Desk.due("a keyword", Desk.named(x, "type", 0), -1);
        Desk.due("a prefix", Desk.named(x, "a", 0), -1);
        Desk.feed(x, "aa");
        Desk.due("another sort", x.named(9), -1);
        Desk.due("it takes the tape, too", x.count(12), 0);
    }

    private static void settings() {
        WiringHouse x = Desk.house("setting s 5; setting t 6; type a; component c is a house when s 5 { method m setting t; }"
            + "component d is a house when s 7 { method m setting t; }");
        Desk.due("THERE at first", Desk.component(x, 0, 2), 1);
        Desk.due("not THERE at first", Desk.component(x, 1, 2), 0);
        Desk.due("setting(-1)", x.setting(-1, 1), false);
        Desk.due("setting(2)", x.setting(2, 1), false);
        Desk.due("setting(0, 7)", x.setting(0, 7), true);
        Desk.due("setting(1, -9)", x.setting(1, -9), true);
        Desk.due("not THERE now", Desk.component(x, 0, 2), 0);
        Desk.due("THERE now", Desk.component(x, 1, 2), 1);
        x.check();
        Desk.due("a setting when READY", x.setting(0, 5), false);
        Desk.due("it stays", Desk.component(x, 1, 2), 1);
        Desk.due("get", x.get(0, 1), 0);
        Desk.due("its value in an E", x.call(0, 0, 0, 0), -9);
        Desk.due("a new book is not READY", Desk.book(x, "setting s 1;"), 0);
        Desk.due("so a setting may be set", x.setting(0, 2), true);
    }
}
