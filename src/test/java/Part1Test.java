/** Part 1 of the document's terms, TEXTS: a test for each sentence that names an edge, with its words. */
final class Part1Test {
    private static final String KEYWORDS = "type like setting component is called rank when wrap need late all opened closed method arg fail pick of go"
        + " house day meal new before around after failing";

    private Part1Test() {
    }

    public static void main(String[] args) {
        tapeSigns();
        taken();
        longest();
        blanks();
        words();
        numbers();
        signs();
        statements();
        optionals();
        members();
        expressions();
        reserved();
        ownNames();
        toldAhead();
        firstCome();
        numbersTold();
        placesOfParts();
        mostNames();
        mostNumbered();
        mostWraps();
        mostListed();
        mostParts();
        placeOfFault();
        firstWrong();
        leastWrong();
        kinds();
        replaced();
        kept();
        Desk.finish("Part1Test");
    }

    private static void fine(String text) {
        Desk.fine(text);
    }

    /** The FAULT that stands at the mark; what is behind its token does not change it. */
    private static void wrong(int kind, String marked) {
        Desk.fault(kind, marked);
        if (!marked.endsWith("^") && marked.length() < 3900) {
            Desk.fault(kind, marked + " #");
            Desk.fault(kind, marked + " ; } type");
        }
    }

    // ---- the TAPE

    private static void tapeSigns() {
        Desk.says("The TAPE has at most 4,000 signs");
        WiringHouse x = new WiringHouse();
        Desk.due("3,999 signs", Desk.feed(x, " ".repeat(3999)), 3999);
        Desk.due("two more", Desk.feed(x, ";;"), 4000);
        Desk.due("one more", Desk.feed(x, ";"), 4000);
        Desk.due("count(12)", x.count(12), 4000);
        Desk.due("the 4,000th stands there, no other does", x.book(), 1 + 16 * 3999);
        x = new WiringHouse();
        Desk.due("4,000 TOKENS", Desk.feed(x, ";".repeat(4001)), 4000);
        Desk.due("no WORD", x.named(0), -1);
        x = new WiringHouse();
        String head = "type a;component c is a new{method m ";
        int terms = (4000 - head.length() - 2) / 2;
        Desk.due("one that is cut", Desk.book(x, head + "1+".repeat(terms + 1) + "1;}"), 1 + 16 * 4000);
        Desk.due("a full TAPE", Desk.book(x, head + "1+".repeat(terms - 1) + "1;}"), 0);
        x.check();
        Desk.due("its sum", x.call(0, x.get(0, 0), 0, 0), terms);
        Desk.says("The TAPE has at most 4,000 signs, 10 and 32 .. 126");
        for (int sign = 0; sign < 256; sign++) {
            int comes = sign == 10 || sign >= 32 && sign <= 126 ? 1 : 0;
            for (int k = 0; k < 8; k++) {
                long one = (long) sign << 8 * k;
                Desk.due("sign " + sign + " at " + k + " of a", new WiringHouse().feed(one, 0, 0), comes);
                Desk.due("sign " + sign + " at " + k + " of b", new WiringHouse().feed(0, one, 0), comes);
                Desk.due("sign " + sign + " at " + k + " of c", new WiringHouse().feed(0, 0, one), comes);
            }
        }
    }

    private static void taken() {
        Desk.says("what reads it takes it: it is empty then");
        WiringHouse x = new WiringHouse();
        for (String text : new String[] {"", "type a;", "type a", "#", " "}) {
            Desk.book(x, text);
            Desk.due("after book of " + text, x.count(12), 0);
            Desk.due("feed anew", x.feed(' ', 0, 0), 1);
            x.named(0);
            Desk.due("after named", x.count(12), 0);
        }
        for (int sort = -1; sort <= 5; sort++) {
            Desk.feed(x, "a b c");
            x.named(sort);
            Desk.due("after named(" + sort + ")", x.count(12), 0);
        }
        Desk.due("nothing of what was taken is read again", Desk.book(x, "type a;") + Desk.book(x, "type a;"), 0);
        Desk.due("what nobody reads stays", Desk.feed(x, "type b"), 6);
        x.check();
        x.get(0, 0);
        x.close(0);
        Desk.due("the rest comes behind it", Desk.feed(x, ";"), 7);
        Desk.due("the two are one text", x.book(), 0);
        Desk.due("b", Desk.named(x, "b", 0), 0);
    }

    // ---- TOKENS

    private static void longest() {
        Desk.says("TOKENS, each as long as can be");
        wrong(1, "^typea;");
        wrong(1, "^type1 a;");
        wrong(1, "setting s 1 ^2;");
        wrong(4, "type t; component c is t house rank ^12 {}");
        wrong(4, "type t; wrap t.m ^100 before 1;");
        fine("type t; component c is t house called rank1 rank 1 {}");
        WiringHouse x = Desk.house("type ab; type a; type b; type a1; type a11;");
        String[] names = {"ab", "a", "b", "a1", "a11"};
        for (int k = 0; k < names.length; k++) {
            Desk.due(names[k], Desk.named(x, names[k], 0), k);
        }
    }

    private static void blanks() {
        Desk.says("blanks (10, 32) between where one likes");
        fine("type t;setting s 1;component c is t house called w rank 1 when s 1{need t;method m of 0.m(-(arg)*2+1<3);}wrap t.m 1 before 1;");
        String[] tokens = ("type t ; setting s 1 ; component c is t house called w rank 1 when s 1 { need t ; method m of 0 . m ( - ( arg ) * 2 + 1 < 3 ) ; } "
            + "wrap t . m 1 before 1 ;").split(" ");
        for (String blank : new String[] {" ", "\n", "  ", "\n\n", " \n \n"}) {
            fine(String.join(blank, tokens));
            fine(blank + String.join(blank, tokens) + blank);
        }
        wrong(1, "^ty pe t;");
        wrong(1, "type t; component c is t ^hou\nse {}");
        wrong(1, "type t; setting s 1 ^0;");
        Desk.due("a word in blanks", Desk.named(Desk.house("type t;"), "\n\n t \n", 0), 0);
        Desk.due("a blank within it", Desk.named(Desk.house("type tt;"), "t t", 0), -1);
    }

    private static void words() {
        Desk.says("WORDS (a letter a .. z, then letters and digits, 12 at most)");
        String[] names = {"a", "aa", "aaa", "z", "zz", "za", "az", "a0", "a1", "a9", "b0", "z9", "a1b2c3", "abcdefghijkl", "abcdefghijk", "bcdefghijkl", "zzzzzzzzzzzz", "zzzzzzzzzzzy", "yzzzzzzzzzzz",
            "a00000000000", "a0000000000", "z99999999999", "aaaaaaaaaaaa", "aaaaaaaaaaa"};
        WiringHouse all = Desk.house("type " + String.join(";type ", names) + ";");
        for (int k = 0; k < names.length; k++) {
            Desk.due(names[k], Desk.named(all, names[k], 0), k);
        }
        for (String none : new String[] {"b", "ab", "ba", "a00", "a10", "z8", "aaaa", "aaaaaaaaaa", "zzzzzzzzzzz", "a01", "y9"}) {
            Desk.due(none, Desk.named(all, none, 0), -1);
        }
        shortWords();
        wrong(1, "type ^abcdefghijklm;");
        wrong(1, "type ^a000000000000;");
        wrong(1, "type ^" + "a".repeat(100) + ";");
        wrong(1, "type a^Z;");
        wrong(1, "type ^Aa;");
        wrong(1, "type a^_b;");
        wrong(1, "type ^0a;");
        Desk.says("all else (a longer WORD or NUMBER, too, at its first sign) is none");
        wrong(1, "type ^abcdefghijklmtype;");
        wrong(1, "type a; ^typecomponents b;");
        Desk.due("a longer WORD for named", Desk.named(Desk.house("type abcdefghijkl;"), "abcdefghijklm", 0), -1);
        Desk.due("12 of it for named", Desk.named(Desk.house("type abcdefghijkl;"), "abcdefghijkl", 0), 0);
    }

    /** All WORDS of one and two signs, by 24 types a book: each is itself alone, and none of the others. */
    private static void shortWords() {
        String signs = "abcdefghijklmnopqrstuvwxyz0123456789";
        java.util.List<String> all = new java.util.ArrayList<>();
        for (int a = 0; a < 26; a++) {
            all.add(signs.substring(a, a + 1));
            for (int b = 0; b < 36; b++) {
                String two = signs.substring(a, a + 1) + signs.charAt(b);
                if (!two.equals("is") && !two.equals("of") && !two.equals("go")) {
                    all.add(two);
                }
            }
        }
        for (int from = 0; from < all.size(); from += 24) {
            java.util.List<String> told = all.subList(from, Math.min(from + 24, all.size()));
            String text = "type " + String.join(";type ", told) + ";";
            for (int asked = 0; asked < all.size(); asked += 200) {
                WiringHouse x = Desk.house(text);
                for (String word : all.subList(asked, Math.min(asked + 200, all.size()))) {
                    Desk.due(word + " in " + text, Desk.named(x, word, 0), told.indexOf(word));
                }
            }
        }
    }

    private static void numbers() {
        Desk.says("NUMBERS (1 to 9 digits; a letter may stand right behind)");
        for (String number : new String[] {"0", "9", "10", "999999999", "000000000", "000000007"}) {
            WiringHouse x = Desk.ready("setting s " + number + "; type t; component c is t house { method m setting s; method n " + number + "; }");
            x.get(0, 0);
            Desk.due("setting " + number, x.call(0, 0, 0, 0), Integer.parseInt(number));
            Desk.due("the PART " + number, x.call(0, 0, 1, 0), Integer.parseInt(number));
        }
        fine("setting s 1; type t; component c is t house rank 1when s 1{method m 1;}wrap t.m 1before 2;");
        wrong(1, "setting s 1^a;");
        wrong(1, "type t; wrap t.m 1before 2^a;");
        wrong(1, "setting s 999999999^a;");
        Desk.says("all else (a longer WORD or NUMBER, too, at its first sign) is none");
        wrong(1, "setting s ^1000000000;");
        wrong(1, "setting s ^0000000000;");
        wrong(1, "setting s ^" + "1".repeat(50) + ";");
        wrong(1, "setting s ^1234567890a;");
        wrong(1, "type t; component c is t house rank ^0000000001 {}");
    }

    private static void signs() {
        Desk.says("signs { } ( ) , ; = < + - * . ; all else .. is none");
        fine("type t; type u; component c is t, u house { need t; method m (of 0.m(1)+2-3*4<5)=6; }");
        for (char sign = 33; sign < 127; sign++) {
            boolean isLetterOrDigit = sign >= 'a' && sign <= 'z' || sign >= '0' && sign <= '9';
            if (!isLetterOrDigit && "{}(),;=<+-*.".indexOf(sign) < 0 && sign != '^') {
                wrong(1, "type a; ^" + sign + " type b;");
                wrong(1, "type t; component c is t house { method m 1 ^" + sign + " 1; }");
                wrong(1, "type t; component c is t house { method m 1^" + sign + "1; }");
                Desk.due("named a" + sign, Desk.named(Desk.house("type a;"), "a" + sign, 0), -1);
            }
        }
        wrong(1, "type t; component c is t house { method m 1 ^> 1; }");
        Desk.fault("^type a;", 1, 0);
        wrong(1, "type t; component c is t house { method m 1 < ^= 1; }");
        wrong(1, "type t; component c is t house { method m 1 + ^+ 1; }");
    }

    // ---- the BOOK

    private static void statements() {
        Desk.says("BOOK: any number of");
        fine("");
        fine(" ");
        fine("\n");
        fine("type a;");
        fine("setting s 0;");
        fine("type a; wrap a.m 1 before 1;");
        fine("type a; wrap a.m 1 before 1; component c is a house {} setting s 1; type b; wrap b.m 1 before setting s; component d is b house {}");
        wrong(1, "^a");
        wrong(1, "^1");
        wrong(1, "^{}");
        wrong(1, "type a;^;");
        for (String first : KEYWORDS.split(" ")) {
            boolean begins = first.equals("type") || first.equals("setting") || first.equals("component") || first.equals("wrap");
            wrong(1, begins ? first + "^" : "^" + first);
        }
        Desk.says("type NAME [ like TYPE { , TYPE } ] ;");
        fine("type a; type b like a; type c like a, b; type d like c, a, b;");
        wrong(1, "type ^;");
        wrong(1, "type a^");
        wrong(1, "type a ^, b;");
        wrong(1, "type a; type b like ^;");
        wrong(1, "type a; type b like a^");
        wrong(1, "type a; type b like a,^;");
        wrong(1, "type a; type b like a ^a;");
        wrong(1, "type a; type b ^a;");
        Desk.says("setting NAME N ;");
        wrong(1, "setting ^1;");
        wrong(1, "setting ^;");
        wrong(1, "setting s^;");
        wrong(1, "setting s ^-1;");
        wrong(1, "setting s ^s;");
        wrong(1, "setting s 1^");
        wrong(1, "setting s 1^, 2;");
        Desk.says("wrap TYPE . METHOD N PHASE E ;");
        wrong(1, "type a; wrap ^.m 1 before 1;");
        wrong(1, "type a; wrap a ^m 1 before 1;");
        wrong(1, "type a; wrap a.^1 before 1;");
        wrong(1, "type a; wrap a.m ^before 1;");
        wrong(1, "type a; wrap a.m 1 ^1;");
        wrong(1, "type a; wrap a.m 1 ^m 1;");
        wrong(1, "type a; wrap a.m 1 before^;");
        wrong(1, "type a; wrap a.m 1 before 1^");
        wrong(1, "type a; wrap a.m 1 before 1 ^}");
    }

    private static void optionals() {
        Desk.says("component NAME is TYPE { , TYPE } SCOPE [ called WORD ] [ rank N ] [ when SETTING N ] { MEMBER .. }");
        String head = "setting s 1; type a; component c is a day";
        for (int set = 0; set < 8; set++) {
            String text = head + ((set & 1) != 0 ? " called w" : "") + ((set & 2) != 0 ? " rank 4" : "") + ((set & 4) != 0 ? " when s 2" : "") + " {}";
            WiringHouse x = Desk.house(text);
            Desk.due(text + ": SCOPE", x.component(0, 0), 1);
            Desk.due(text + ": rank", x.component(0, 1), (set & 2) != 0 ? 4 : 0);
            Desk.due(text + ": THERE", x.component(0, 2), (set & 4) != 0 ? 0 : 1);
            Desk.due(text + ": called", x.component(0, 4), (set & 1) != 0 ? 0 : -1);
        }
        wrong(1, head + " rank 1 ^called w {}");
        wrong(1, head + " when s 1 ^called w {}");
        wrong(1, head + " when s 1 ^rank 1 {}");
        wrong(1, head + " called w ^called w {}");
        wrong(1, head + " rank 1 ^rank 1 {}");
        wrong(1, head + " when s 1 ^when s 1 {}");
        wrong(1, head + " called ^{}");
        wrong(1, head + " rank ^{}");
        wrong(1, head + " when ^1 {}");
        wrong(1, head + " when s ^{}");
        wrong(1, head + "^;");
        wrong(1, head + " ^}");
        wrong(1, head + " {^");
        wrong(1, head + " {} ^;");
        wrong(1, "type a; component ^is a day {}");
        wrong(1, "type a; component c ^a day {}");
        wrong(1, "type a; component c is ^day {}");
        wrong(1, "type a; component c is a,^day {}");
        wrong(1, "type a; component c is a ^a {}");
        Desk.says("SCOPE: house, day, meal, new. PHASE: before, around, after, failing.");
        String[] scopes = {"house", "day", "meal", "new"};
        String[] phases = {"before", "around", "after", "failing"};
        for (int k = 0; k < 4; k++) {
            Desk.due(scopes[k], Desk.house("type a; component c is a " + scopes[k] + " {}").component(0, 0), k);
            fine("type a; wrap a.m 1 " + phases[k] + " 1;");
            wrong(1, "type a; component c is a ^" + phases[k] + " {}");
            wrong(1, "type a; wrap a.m 1 ^" + scopes[k] + " 1;");
        }
    }

    private static void members() {
        Desk.says("MEMBER: need [ late ] TYPE [ called WORD ] ;   need all TYPE ;   opened E ;   closed E ;   method METHOD E ;");
        String head = "type a; component c is a new { ";
        for (String member : new String[] {"need a;", "need late a;", "need a called w;", "need late a called w;", "need all a;", "opened 1;", "closed 1;", "method m 1;"}) {
            fine(head + member + " }");
            wrong(1, head + member + "^");
            wrong(1, head + member.replace(";", "^"));
            wrong(1, head + member.replace(";", " ^}"));
            wrong(1, head + member + " ^; }");
        }
        wrong(1, head + "need ^; }");
        wrong(1, head + "need late ^; }");
        wrong(1, head + "need late ^late a; }");
        wrong(1, head + "need late ^all a; }");
        wrong(1, head + "need all ^late a; }");
        wrong(1, head + "need all a ^called w; }");
        wrong(1, head + "need a called ^; }");
        wrong(1, head + "need a called w ^called w; }");
        wrong(1, head + "need a ^late; }");
        wrong(1, head + "opened^; }");
        wrong(1, head + "method ^; }");
        wrong(1, head + "method m^; }");
        wrong(1, head + "method ^1; }");
        for (String first : KEYWORDS.split(" ")) {
            if (!(" need opened closed method ".contains(" " + first + " "))) {
                wrong(1, head + "^" + first + " a; }");
            }
        }
        wrong(1, head + "^a; }");
        wrong(1, head + "^1; }");
        Desk.says("1 it is none, or can't stand there (a second opened, closed, too)");
        wrong(1, head + "opened 1; ^opened 1; }");
        wrong(1, head + "closed 1; ^closed 1; }");
        fine(head + "opened 1; closed 1; } component d is a new { opened 1; closed 1; }");
    }

    private static String method(String e) {
        return "setting s 3; type a; component c is a new { need late a; method m " + e + "; }";
    }

    private static void expressions() {
        Desk.says("E: SUM [ < SUM or = SUM ]. SUM: PRODUCT { + or - PRODUCT }. PRODUCT: PART { * PART }.");
        for (String e : new String[] {"1", "1<2", "1=2", "1+2", "1-2", "1*2", "1+2-3+4", "1*2*3", "1+2*3<4*5-6", "1*2=3*4"}) {
            fine(method(e));
        }
        for (String e : new String[] {"^", "1<^", "1=^", "1+^", "1-^", "1*^", "^<1", "^=1", "^+1", "^*1", "1<2^<3", "1<2^=3", "1=2^<3", "1=2^=3", "1 ^1", "1 ^arg",
            "1 ^(1)", "1^,", "1^.1", "^.", "^,", "^}", "^{", "^)"}) {
            wrong(1, method(e));
        }
        Desk.says("PART: N | arg | ( E ) | - PART | fail N | setting SETTING | pick ( E , E , E ) | of N . METHOD ( E ) | go ( E )");
        for (String e : new String[] {"7", "arg", "(1<2)", "-1", "-arg", "-(1)", "- - 1", "1--1", "1*-1", "fail 1", "-fail 1", "setting s", "pick(1<2,3=4,5<6)",
            "of 0.m(1=2)", "of 0 . x ( arg )"}) {
            fine(method(e));
        }
        for (String e : new String[] {"(^)", "(1^", "(1<2^<3)", "-^", "-^+1", "fail ^", "fail ^arg", "fail ^(1)", "fail ^-1", "setting ^", "setting ^1", "setting ^arg", "pick ^1",
            "pick(^)", "pick(^,1,1)", "pick(1^)", "pick(1,^)", "pick(1,2^)", "pick(1,2,^)", "pick(1,2,3^", "pick(1,2,3^,4)", "of ^.m(1)", "of ^m(1)", "of ^(0).m(1)",
            "of 0 ^m(1)", "of 0.^(1)", "of 0.^arg(1)", "of 0.m^", "of 0.m ^1", "of 0.m(^)", "of 0.m(1^,2)", "of 0.m(1^", "^late", "^m", "^house", "^like"}) {
            wrong(1, method(e));
        }
        String around = "type a; wrap a.m 1 around ";
        fine(around + "go(1<2);");
        for (String e : new String[] {"go ^;", "go ^1;", "go(^);", "go(1^;", "go(1^,2);"}) {
            wrong(1, around + e);
        }
    }

    // ---- NAMES

    private static void reserved() {
        Desk.says("NAMES, METHODS, WORDS behind called are WORDS but type like setting .. and SCOPES, PHASES");
        String[] keywords = KEYWORDS.split(" ");
        Desk.due("those there are", keywords.length, 28);
        for (String word : keywords) {
            wrong(1, "type ^" + word + ";");
            wrong(1, "setting ^" + word + " 1;");
            wrong(1, "type a; component ^" + word + " is a house {}");
            wrong(1, "type a; component c is a house called ^" + word + " {}");
            wrong(1, "type a; component c is a house { method ^" + word + " 1; }");
            wrong(1, "type a; component c is a house { need a called ^" + word + "; }");
            wrong(1, "type a; component c is a house { need a; method m of 0.^" + word + "(1); }");
            wrong(1, "type a; wrap a.^" + word + " 1 before 1;");
            String other = word + "x";
            fine("type " + other + "; component c is " + other + " house called " + other + " { method " + other + " 1; }");
            fine("type " + word.substring(0, word.length() - 1) + "0;");
            Desk.due("named " + word, Desk.named(Desk.house("type a;"), word, 0), -1);
        }
    }

    private static void ownNames() {
        Desk.says("Types, settings, components have no NAME of another one of these");
        String[] told = {"type x;", "setting x 1;", "component x is t house {}"};
        String[] again = {"type ^x;", "setting ^x 1;", "component ^x is t house {}"};
        for (String first : told) {
            for (String second : again) {
                wrong(3, "type t;" + first + second);
                wrong(3, "type t;" + first + "type y; setting z 1;" + second);
            }
        }
        wrong(3, "type t; component ^t is t house {}");
        // METHODS and WORDS behind called are none of these.
        fine("type x; setting y 1; component z is x house called x { method x 1; method y 1; method z 1; need x called y; need x called z; }");
        fine("type t; component c is t house called w { method m 1; } type w; setting m 1;");
    }

    private static void toldAhead() {
        Desk.says("what is named is told ahead");
        wrong(2, "type a like ^b; type b;");
        wrong(2, "type a; type c like a, ^b; type b;");
        wrong(2, "component c is ^t house {} type t;");
        wrong(2, "type a; component c is a, ^t house {} type t;");
        wrong(2, "type a; component c is a house { need ^t; } type t;");
        wrong(2, "type a; component c is a house { need late ^t; } type t;");
        wrong(2, "type a; component c is a house { need all ^t; } type t;");
        wrong(2, "wrap ^t.m 1 before 1; type t;");
        wrong(2, "type a; component c is a house when ^s 1 {} setting s 1;");
        wrong(2, "type a; component c is a house { method m setting ^s; } setting s 1;");
        wrong(2, "type a; wrap a.m 1 before setting ^s; setting s 1;");
        wrong(2, "type a like ^a;");
        // Told as one of another sort is not told as one of this.
        wrong(2, "setting s 1; type a like ^s;");
        wrong(2, "setting s 1; component c is ^s house {}");
        wrong(2, "type a; component c is a house {} type b like ^c;");
        wrong(2, "type a; component c is a house { need ^c; }");
        wrong(2, "type a; component c is a house when ^a 1 {}");
        wrong(2, "type a; component c is a house { method m setting ^a; }");
        wrong(2, "type a; component c is a house called w { method m 1; need ^w; }");
        // METHODS need not be told by a component at all.
        fine("type a; wrap a.m 1 before 1; component c is a house { need a; method x of 0.y(1); }");
    }

    private static void firstCome() {
        Desk.says("METHODS, and WORDS behind called, are numbered as they first come");
        WiringHouse x = Desk.house("type a; wrap a.m3 1 before 1; component c is a new called w2 { need a called w9; method m1 of 0.m7(of 0.m3(1)); method m3 1; opened of 0.m2(1); need a called w2; }"
            + "component d is a new called w1 { method m2 1; method m0 1; need late a called w9; } wrap a.m8 1 before 1; wrap a.m1 1 before 1;");
        String[] methods = {"m3", "m1", "m7", "m2", "m0", "m8"};
        String[] words = {"w2", "w9", "w1"};
        for (int k = 0; k < methods.length; k++) {
            Desk.due(methods[k], Desk.named(x, methods[k], 3), k);
        }
        for (int k = 0; k < words.length; k++) {
            Desk.due(words[k], Desk.named(x, words[k], 4), k);
        }
        Desk.due("METHODS", x.count(3), 6);
        Desk.due("c is called", x.component(0, 4), 0);
        Desk.due("d is called", x.component(1, 4), 2);
        Desk.due("types are numbered as told", Desk.named(Desk.house("type b; type a; type c like a;"), "c", 0), 2);
    }

    // ---- NUMBERS

    private static void numbersTold() {
        Desk.says("N: of setting, when, PARTS any");
        fine("setting s 0; setting t 999999999; type a; component c is a house when s 0 { method m 0 + 999999999; } component d is a house when t 999999999 {}");
        Desk.says("rank 0 .. 9");
        for (int n = 0; n <= 9; n++) {
            Desk.due("rank " + n, Desk.house("type a; component c is a house rank " + n + " {}").component(0, 1), n);
        }
        wrong(4, "type a; component c is a house rank ^10 {}");
        wrong(4, "type a; component c is a house rank ^999999999 {}");
        Desk.says("wrap 0 .. 99");
        fine("type a; wrap a.m 0 before 1; wrap a.m 99 before 1; wrap a.m 099 before 1;");
        wrong(4, "type a; wrap a.m ^100 before 1;");
        wrong(4, "type a; wrap a.m ^999999999 before 1;");
        Desk.says("fail 1 .. 9");
        for (int n = 1; n <= 9; n++) {
            WiringHouse x = Desk.ready("type a; component c is a house { opened fail " + n + "; }");
            Desk.getFails(x, 0, 0, n);
        }
        wrong(4, method("fail ^0"));
        wrong(4, method("fail ^10"));
        wrong(4, "type a; wrap a.m 1 failing fail ^0;");
        Desk.says("of: a need of the component that is told ahead, 0 the first (not in a wrap)");
        fine("type a; component c is a new { need a; need late a; need all a; method m of 0.m(of 1.m(of 2.m(1))); }");
        wrong(4, "type a; component c is a new { need a; need late a; need all a; method m of ^3.m(1); }");
        wrong(4, "type a; component c is a new { method m of ^0.m(1); need a; }");
        wrong(4, "type a; component c is a new { need a; method m of ^1.m(1); need a; }");
        wrong(4, "type a; component c is a new { need a; opened of 0.m(1); closed of ^999999999.m(1); }");
        wrong(4, "type a; component c is a new { need a; } component d is a new { method m of ^0.m(1); }");
        fine("type a; component c is a new {" + "need a;".repeat(8) + "method m of 7.m(1); }");
        wrong(4, "type a; component c is a new {" + "need a;".repeat(8) + "method m of ^8.m(1); }");
        for (String phase : new String[] {"before", "around", "after", "failing"}) {
            wrong(1, "type a; component c is a new { need a; } wrap a.m 1 " + phase + " ^of 0.m(1);");
        }
        WiringHouse x = Desk.ready("type a; type b; component k is a house called v { method m 5; } component l is a house called w { method m 7; } "
            + "component c is b house { need a called w; need a called v; method p of 0.m(1); method q of 1.m(1); }");
        x.get(0, 2);
        Desk.due("0 is the first", Desk.call(x, 0, 0, "p", 0), 7);
        Desk.due("1 is the second", Desk.call(x, 0, 0, "q", 0), 5);
    }

    private static void placesOfParts() {
        Desk.says("go stands in an around alone");
        fine("type a; wrap a.m 1 around go(arg);");
        fine("type a; wrap a.m 1 around go(go(1)) + -go(2) * pick(go(1), go(2), go(3));");
        for (String phase : new String[] {"before", "after", "failing"}) {
            wrong(1, "type a; wrap a.m 1 " + phase + " ^go(arg);");
            wrong(1, "type a; wrap a.m 1 " + phase + " 1 + (^go(arg));");
            wrong(1, "type a; wrap a.m 1 around go(1); wrap a.m 1 " + phase + " ^go(arg);");
        }
        for (String member : new String[] {"opened", "closed", "method m"}) {
            wrong(1, "type a; wrap a.m 1 around go(1); component c is a house { " + member + " ^go(1); }");
        }
        fine("type a; component c is a house { method m 1; } wrap a.m 1 around go(1);");
    }

    // ---- how many

    private static void mostNames() {
        Desk.says("At most 24 types");
        String types = Desk.times(24, "type t#;");
        Desk.due("24 types", Desk.house(types).count(0), 24);
        wrong(5, types + " ^type t24;");
        wrong(5, types + " ^type t0;");
        wrong(5, types + " ^type");
        Desk.says("12 settings");
        String settings = Desk.times(12, "setting s# #;");
        Desk.due("12 settings", Desk.house(settings).count(1), 12);
        wrong(5, settings + " ^setting s12 1;");
        wrong(5, settings + " ^setting");
        Desk.says("24 components");
        String components = "type t;" + Desk.times(24, "component c# is t new {}");
        Desk.due("24 components", Desk.house(components).count(2), 24);
        wrong(5, components + " ^component c24 is t new {}");
        wrong(5, components + " ^component");
        // The others may still come.
        fine(components + "type u; setting s 1; wrap t.m 1 before 1;");
        fine(types + "setting s 1; component c is t23 new {}");
    }

    private static void mostNumbered() {
        Desk.says("20 METHODS .. METHODS, WORDS at theirs");
        String methods = "type t; component c is t new { need t; " + Desk.times(20, "method m# 1;");
        Desk.due("20 METHODS", Desk.house(methods + "}").count(3), 20);
        wrong(5, methods + "method ^m20 1; }");
        wrong(5, methods + "opened of 0.^m20(1); }");
        wrong(5, methods + "} wrap t.^m20 1 before 1;");
        fine(methods + "opened of 0.m0(of 0.m19(1)); } component d is t new { method m19 1; } wrap t.m0 1 before 1;");
        wrong(5, "type t; component c is t new { need t; method m0 " + Desk.times(19, "of 0.n#(1)+") + "of 0.^x(1); }");
        Desk.says("20 WORDS behind called .. METHODS, WORDS at theirs");
        String words = "type t;" + Desk.times(19, "component c# is t new called w# {}") + "component c is t new { need t called w19;";
        fine(words + "}");
        wrong(5, words + "need t called ^w20; }");
        wrong(5, words + "need late t called ^w20; }");
        wrong(5, words + "} component d is t new called ^w20 {}");
        fine(words + "need t called w0; } component d is t new called w19 {}");
        // METHODS do not count among the WORDS, nor they among METHODS.
        fine(words + Desk.times(20, "method m# 1;") + "}");
    }

    private static void mostWraps() {
        Desk.says("12 wraps");
        String wraps = "type t;" + Desk.times(4, "wrap t.m# 1 around go(arg); wrap t.m# # before 1; wrap t.m# 99 after 1;");
        Desk.due("12 wraps", Desk.house(wraps).count(4), 12);
        wrong(5, wraps + " ^wrap t.m 1 before 1;");
        wrong(5, wraps + " ^wrap");
        Desk.says("2 arounds of one METHOD .. an around at that word");
        String arounds = "type t; type u; wrap t.m 1 around 1; wrap u.m 1 around 1;";
        fine(arounds);
        wrong(5, arounds + "wrap t.m 1 ^around 1;");
        wrong(5, arounds + "wrap u.m 99 ^around 1;");
        fine(arounds + "wrap t.m 1 before 1; wrap t.m 1 after 1; wrap t.m 1 failing 1; wrap t.n 1 around 1; wrap t.n 1 around 1;");
        wrong(5, arounds + "wrap t.n 1 around 1; wrap u.n 1 around 1; wrap t.n 1 ^around 1;");
    }

    private static void mostListed() {
        Desk.says("6 TYPES of a list .. types of a list, METHODS, WORDS at theirs");
        String types = Desk.times(8, "type t#;");
        fine(types + "type u like t0, t1, t2, t3, t4, t5;");
        wrong(5, types + "type u like t0, t1, t2, t3, t4, t5, ^t6;");
        wrong(5, types + "type u like t0, t1, t2, t3, t4, t5, ^t6, t7;");
        fine(types + "component c is t0, t1, t2, t3, t4, t5 house {}");
        wrong(5, types + "component c is t7, t1, t2, t3, t4, t5, ^t6 house {}");
        // What a type is like does not count.
        fine(types + "type u like t0, t1, t2, t3; type v like u, t4, t5, t6, t7; component c is v house {}");
        Desk.says("8 needs");
        String needs = "type t; component c is t new {" + Desk.times(8, "need all t;");
        Desk.due("8 needs", Desk.house(needs + "}").component(0, 3), 8);
        wrong(5, needs + " ^need all t; }");
        wrong(5, needs + " ^need late t; }");
        wrong(5, needs + " method m 1; ^need");
        fine(needs + "}" + "component d is t new {" + Desk.times(8, "need late t;") + "}");
    }

    private static void mostParts() {
        Desk.says("8 PARTS within one another .. a PART within 8 others");
        fine(method("(((((((1)))))))"));
        wrong(5, method("((((((((^1))))))))"));
        fine(method("-------1"));
        wrong(5, method("--------^1"));
        String[] outer = {"(#)", "-#", "pick(#,1,1)", "pick(1,#,1)", "pick(1,1,#)", "of 0.m(#)"};
        String[] inner = {"1", "arg", "(1)", "-1", "fail 1", "setting s", "pick(1,1,1)", "of 0.m(1)"};
        for (String around : outer) {
            String seven = "#";
            for (int k = 0; k < 7; k++) {
                seven = seven.replace("#", around);
            }
            fine(method(seven.replace("#", "arg")));
            for (String within : inner) {
                wrong(5, method(seven.replace("#", "(^" + within + ")")));
            }
            // Side by side they are not within one another.
            fine(method(seven.replace("#", "1+1*1<1")));
            fine(method(seven.replace("#", "1") + "+" + seven.replace("#", "1")));
        }
        fine("type a; wrap a.m 1 around " + "go(".repeat(7) + "1" + ")".repeat(7) + ";");
        wrong(5, "type a; wrap a.m 1 around " + "go(".repeat(8) + "^1" + ")".repeat(8) + ";");
        wrong(5, "type a; wrap a.m 1 before " + "(".repeat(8) + "^arg" + ")".repeat(8) + ";");
        wrong(5, "type a; component c is a house { opened " + "(".repeat(8) + "^arg" + ")".repeat(8) + "; }");
        // The NUMBERS of fail and of, and the NAMES, are no PARTS.
        fine(method("-------fail 1"));
        fine(method("-------setting s"));
        fine(method("------of 0.m(1)"));
        wrong(5, method("-------of 0.m(^1)"));
    }

    // ---- FAULTS

    private static void placeOfFault() {
        Desk.says("FAULTS, kind + 16 * the place (from 0) of a token, the end being one at the text's length");
        Desk.fault("#", 1, 0);
        Desk.fault(" #", 1, 1);
        Desk.fault("type", 1, 4);
        Desk.fault("type ", 1, 5);
        Desk.fault("type \n ", 1, 7);
        Desk.fault("type a;\ntype\na;", 3, 13);
        Desk.fault(" ".repeat(3999) + "a", 1, 3999);
        Desk.fault("type a" + " ".repeat(3994), 1, 4000);
        // What feed() leaves out has no place.
        WiringHouse x = new WiringHouse();
        x.feed(0x7479706500ff2009L, 0x0141000000000000L, 0);
        Desk.due("type and A, others left out", x.book(), 1 + 16 * 5);
    }

    private static void firstWrong() {
        Desk.says("of the first token from the left that is wrong");
        wrong(1, "type ^1; type");
        wrong(2, "type a like ^b, #;");
        wrong(3, "type a; type ^a like b, 1;");
        wrong(4, "type a; component c is a house rank ^10 when b {");
        wrong(5, Desk.times(24, "type t#;") + "^type t0 like x #");
        wrong(2, "type a; component c is ^b house rank 10 {}");
        wrong(4, "type a; wrap a.m ^100 around of 0");
        wrong(1, "type a; wrap a.m 1 ^house #");
        wrong(4, method("fail ^0 + setting x + ("));
        wrong(2, method("setting ^x + fail 0"));
        wrong(1, method("1 + ^go(fail 0)"));
        wrong(4, method("of ^1.arg(fail 0)"));
        wrong(1, "type a ^type b type c;");
        wrong(1, "setting s ^type b type c;");
        wrong(1, "setting s 1 ^type b type c;");
        wrong(1, "setting s 1; type a; component c is a house when s ^{} type b type c;");
        wrong(1, "type a; component c is a house { need a ^need a need a; }");
        wrong(1, "type a; component c is a house { method m 1 < ^; method n 1 < ; }");
        wrong(1, "type a; component c is a house { method m 1 * ^; method n 1 * ; }");
        // Nothing is wrong ahead of the end.
        wrong(1, "type a; component c is a house { method m 1 + ^");
        wrong(1, "type a; component c is a house { method m pick(1, 2^");
    }

    private static void leastWrong() {
        Desk.says("FAULTS .. of the first token from the left that is wrong the least");
        String types = Desk.times(24, "type t#;");
        String list = "t0, t1, t2, t3, t4, t5";
        wrong(3, types + "component c is " + list + ", ^t0 house {}");
        wrong(2, types + "component c is " + list + ", ^x house {}");
        wrong(1, types + "component c is " + list + ", ^new house {}");
        wrong(1, types + "component c is " + list + ", ^1 house {}");
        wrong(5, types + "component c is " + list + ", ^t6 house {}");
        wrong(1, types + "^house a;");
        String methods = "type t; component c is t new { need t; " + Desk.times(20, "method m# 1;");
        wrong(3, methods + "method ^m0 1; }");
        wrong(1, methods + "method ^day 1; }");
        wrong(1, methods + "method ^abcdefghijklm 1; }");
        // A statement that is one too many, where none of its kind can stand.
        wrong(1, "type t;" + Desk.times(23, "component c# is t new {}") + "component c is t new { ^component d is t new {}");
        wrong(1, types + "component c is t0 new { ^type x; }");
        wrong(1, "type t; component c is t new {" + "need all t;".repeat(8) + "} ^need all t;");
        wrong(1, "type t; component c is t new { method m " + "(".repeat(8) + "^go(1)" + ")".repeat(8) + "; }");
        wrong(1, "type t; component c is t new { method m " + "(".repeat(8) + "^)");
        wrong(1, "type t; component c is t new { method m " + "-".repeat(8) + "^+");
        wrong(1, "type t; component c is t new { method m " + "-".repeat(8) + "^x");
        wrong(1, "type t; wrap t.m 1 before " + "-".repeat(8) + "^of 0.m(1);");
        wrong(1, "type t; wrap t.m 1 before " + "-".repeat(8) + "^1234567890;");
        wrong(1, "type t; wrap t.m 1 around 1; wrap t.m 1 around 1; wrap t.m 1 ^new 1;");
        wrong(4, "type t; wrap t.m 1 around 1; wrap t.m 1 around 1; wrap t.m ^100 around 1;");
    }

    private static void kinds() {
        Desk.says("2 a NAME that is not told");
        wrong(2, "component c is ^x house {}");
        wrong(1, "component c is ^house house {}");
        Desk.says("3 a NAME that is told; a TYPE twice in one list; a METHOD of this component that it has");
        wrong(3, "type a; type ^a;");
        wrong(3, "type a; type b like a, ^a;");
        wrong(3, "type a; type b; type c like a, b, ^a;");
        wrong(3, "type a; component c is a, ^a house {}");
        fine("type a; type b like a; component c is a, b house {}");
        wrong(3, "type a; component c is a house { method m 1; method n 1; method ^m 2; }");
        fine("type a; component c is a house { method m 1; } component d is a house { method m 1; }");
        fine("type a; wrap a.m 1 before 1; wrap a.m 1 before 1; component c is a house { need all a; method x of 0.m(1); method m 1; }");
        Desk.says("4 a NUMBER that is not as told");
        wrong(4, "type a; component c is a house rank ^10 {}");
        Desk.says("5 one too many (at its first token; types of a list, METHODS, WORDS at theirs, an around at that word; a PART within 8 others)");
        wrong(5, Desk.times(12, "setting s# 1;") + "^setting s0 1234567890;");
        wrong(5, "type t;" + Desk.times(12, "wrap t.m 1 before 1;") + "^wrap x");
    }

    // ---- a new BOOK

    private static final String LIVELY = "setting s 1; type a; type b; component k is a house called w { method m arg; closed fail 4; } component l is b day { need a; method m fail 2; } "
        + "component f is b house { opened fail 3; } wrap a.m 1 before arg + 1;";

    /** A house with all that may be told: scopes, objects, what was spoiled, closed, called, and a failure. */
    private static WiringHouse lively() {
        WiringHouse x = Desk.ready(LIVELY);
        x.day();
        x.meal(1);
        x.day();
        x.close(3);
        x.get(2, 1);
        x.get(0, 2);
        x.get(0, 0);
        x.day();
        x.close(0);
        x.day();
        x.get(5, 1);
        x.get(5, 2);
        Desk.callFails(x, 5, 3, "m", 2);
        return x;
    }

    private static void replaced() {
        WiringHouse x = lively();
        int steps = x.count(9);
        Desk.due("STEPS so far", steps > 0, true);
        Desk.says("A BOOK without a FAULT takes the place of the one there was");
        Desk.due("book", Desk.book(x, "type z; component y is z house { method p 6; }"), 0);
        Desk.due("an old type", Desk.named(x, "a", 0), -1);
        Desk.due("an old setting", Desk.named(x, "s", 1), -1);
        Desk.due("an old component", Desk.named(x, "k", 2), -1);
        Desk.due("an old METHOD", Desk.named(x, "m", 3), -1);
        Desk.due("an old WORD", Desk.named(x, "w", 4), -1);
        Desk.due("the new type", Desk.named(x, "z", 0), 0);
        Desk.says("and nothing is made, no scope open but the house's, nothing is told of what was ahead (outcome() is 0); only STEPS in all stay counted");
        Desk.counts(x, 1, 0, 1, 1, 0, 1, 0, 0, 0, steps, 0, 0, 0);
        Desk.due("outcome", x.outcome(), 0);
        Desk.due("cause", x.cause(0), 0);
        Desk.closed(x);
        Desk.did(x);
        Desk.due("object", Desk.object(x, 0, 0), Desk.THROWN);
        Desk.due("joined", x.joined(0, 0, 0), -1);
        Desk.due("spoiled in the house", x.spoiled(0, 0), 0);
        Desk.due("spoiled in a scope of old", x.spoiled(5, 0), -1);
        Desk.closeEnds(x, 5, -1, 3);
        Desk.due("a day ahead of check()", x.day(), -1);
        Desk.due("a setting of old", x.setting(0, 2), false);
        x.check();
        Desk.due("scopes are numbered anew", x.day(), 1);
        Desk.due("objects are numbered anew", x.get(0, 0), 0);
        Desk.due("it is a new one", x.call(0, 0, 0, 1), 6);
        Desk.due("STEPS in all go on", x.count(9), steps + 3);
        WiringHouse y = Desk.house("type a; type b; component c is a house { need b; }");
        y.check();
        Desk.due("a fault", y.fault(0, 0), 1);
        Desk.due("an empty book", y.book(), 0);
        Desk.due("count(11)", y.count(11), 0);
        Desk.due("no fault is told", y.fault(0, 0), -1);
        Desk.due("no components", y.count(2), 0);
        readAgain();
        spoiltAgain();
        richAndPlain();
    }

    /** The same book once more: all is as if it were the first. */
    private static void readAgain() {
        WiringHouse x = lively();
        Desk.getFails(x, 5, 2, 15);
        Desk.due("the same book", Desk.book(x, LIVELY), 0);
        x.check();
        for (int s = 1; s <= 5; s++) {
            Desk.due("no scope of old is open", x.spoiled(s, 0), -1);
        }
        for (int s = 1; s <= 5; s++) {
            x.day();
        }
        for (int s = 0; s <= 5; s++) {
            for (int c = 0; c < 3; c++) {
                Desk.due("spoiled(" + s + ", " + c + ")", x.spoiled(s, c), 0);
            }
        }
        Desk.getFails(x, 5, 2, 3);
        Desk.due("k", x.get(0, 0), 1);
    }

    private static void spoiltAgain() {
        String text = "type a; type b; type e; component k is a house called v { need b; method m 1; } component l is b house { need late a called v; opened of 0.m(1); } "
            + "component n is e house { opened fail 5; } component p is a house { need e; }";
        WiringHouse x = Desk.ready("type a; component c is a new {}");
        for (int i = 0; i < 4; i++) {
            x.get(0, 0);
        }
        for (int round = 0; round < 2; round++) {
            Desk.due("book", Desk.book(x, text), 0);
            Desk.due("check", x.check(), 0);
            Desk.due("no failure of old is told", x.cause(0), 0);
            Desk.getFails(x, 0, 0, 20, 12);
            Desk.getFails(x, 0, 3, 20, 5);
        }
    }

    private static void richAndPlain() {
        String rich = "setting s 1; setting r 2; type a; type b like a; component c is a, b meal called w rank 3 when s 2 { need a; need late b; opened fail 1; closed fail 2; method m fail 3; method n 1; } "
            + "component d is a house {} wrap a.m 1 before 2; wrap a.m 1 around 3; wrap b.m 2 around 4;";
        String plain = "type z; component y is z house { method m arg; }";
        WiringHouse x = new WiringHouse();
        for (int i = 0; i < 4; i++) {
            Desk.due("rich", Desk.book(x, rich), 0);
            Desk.due("rich", Desk.book(x, rich), 0);
            Desk.counts(x, 2, 2, 2, 2, 3);
            Desk.due("one that ends within a component", Desk.book(x, rich + "component e is a house {"), 1 + 16 * (rich.length() + 24));
            Desk.due("plain", Desk.book(x, plain), 0);
            Desk.counts(x, 1, 0, 1, 1, 0);
            int[] told = {0, 0, 1, 0, -1};
            for (int what = 0; what < told.length; what++) {
                Desk.due("component(0, " + what + ")", x.component(0, what), told[what]);
            }
            Desk.due("a WORD of old", Desk.named(x, "w", 4), -1);
            Desk.due("check", x.check(), 0);
            Desk.due("get", x.get(0, 0), 0);
            Desk.due("call", x.call(0, 0, 0, 7), 7);
            Desk.due("close", x.close(0), 1);
            Desk.closed(x, row(0, 0));
        }
    }

    private static int[] row(int... numbers) {
        return numbers;
    }

    private static void kept() {
        Desk.says("Else all stays.");
        for (String bad : new String[] {"#", "type", "type z; setting q 7; component y is z house { need z; method p 6; } wrap z.p 3 after 4; type z;"}) {
            WiringHouse x = lively();
            int[] before = all(x);
            Desk.due("a FAULT", Desk.book(x, bad) != 0, true);
            int[] after = all(x);
            for (int i = 0; i < before.length; i++) {
                Desk.due("the " + i + "-th answer after a book with a FAULT", after[i], before[i]);
            }
            Desk.due("a", Desk.named(x, "a", 0), 0);
            Desk.due("z", Desk.named(x, "z", 0), -1);
            Desk.due("m", Desk.named(x, "m", 3), 0);
            Desk.due("p", Desk.named(x, "p", 3), -1);
            Desk.due("w", Desk.named(x, "w", 4), 0);
            Desk.callFails(x, 5, 3, "m", 2);
            Desk.due("k is called as ever", Desk.call(x, 5, 4, "m", 8), 9);
            Desk.due("the next scope", x.day(), 6);
        }
    }

    private static int[] all(WiringHouse x) {
        int[] answers = new int[60];
        int n = 0;
        for (int what = 0; what <= 12; what++) {
            answers[n++] = x.count(what);
        }
        for (int i = 0; i < 5; i++) {
            answers[n++] = x.closed(i, 0);
            answers[n++] = x.closed(i, 1);
            answers[n++] = x.did(0, i);
            answers[n++] = x.cause(i);
            answers[n++] = Desk.object(x, i, 2);
            answers[n++] = x.joined(i, 0, 0);
            answers[n++] = x.spoiled(5, i);
            answers[n++] = Desk.component(x, 0, i);
        }
        answers[n++] = x.outcome();
        answers[n++] = x.spoiled(0, 2);
        answers[n++] = x.candidate(1, 0, 0);
        return answers;
    }
}
