import java.util.NoSuchElementException;

/** What the tests share: feeding texts, and comparing answers with those that are due. */
final class Desk {
    private static int wrong;
    private static String sentence = "";

    private Desk() {
    }

    /** The document's words that the answers from here on are due by; a wrong one is told with them. */
    static void says(String words) {
        sentence = "\"" + words + "\": ";
    }

    static void due(String what, long got, long want) {
        if (got != want) {
            wrong++;
            System.out.println(sentence + what + " answered " + got + ", due is " + want);
        }
    }

    static void due(String what, boolean got, boolean want) {
        due(what, got ? 1 : 0, want ? 1 : 0);
    }

    static void finish(String name) {
        System.out.println(name + ": " + (wrong == 0 ? "all answers are as due" : wrong + " answers are not as due"));
        if (wrong != 0) {
            System.exit(1);
        }
    }

    /** Feeds a text by 24 signs a call; the bytes behind its end are 0, which feed() leaves out. */
    static int feed(WiringHouse x, String text) {
        int length = x.count(12);
        for (int i = 0; i < text.length(); i += 24) {
            length = x.feed(eight(text, i), eight(text, i + 8), eight(text, i + 16));
        }
        return length;
    }

    static long eight(String text, int from) {
        long bytes = 0;
        for (int i = from; i < from + 8; i++) {
            bytes = bytes << 8 | (i < text.length() ? text.charAt(i) : 0);
        }
        return bytes;
    }

    static int book(WiringHouse x, String text) {
        feed(x, text);
        return x.book();
    }

    static int named(WiringHouse x, String text, int sort) {
        feed(x, text);
        return x.named(sort);
    }

    /** A house with that book, which must have no FAULT. */
    static WiringHouse house(String text) {
        WiringHouse x = new WiringHouse();
        due("book of " + text, book(x, text), 0);
        return x;
    }

    /** A house with that book that is READY. */
    static WiringHouse ready(String text) {
        WiringHouse x = house(text);
        due("check of " + text, x.check(), 0);
        return x;
    }

    /** A new object's FAULT for a text, told by kind and place. */
    static void fault(String text, int kind, int place) {
        due("book of " + text, book(new WiringHouse(), text), kind + 16 * place);
    }

    /** The FAULT of a text stands where the mark ^ does, which is left out of the text. */
    static void fault(int kind, String marked) {
        int place = marked.indexOf('^');
        fault(marked.substring(0, place) + marked.substring(place + 1), kind, place);
    }

    static void fine(String text) {
        fault(text, 0, 0);
    }

    static final int THROWN = -1000;

    static int component(WiringHouse x, int c, int what) {
        try {
            return x.component(c, what);
        } catch (NoSuchElementException e) {
            return THROWN;
        }
    }

    static int object(WiringHouse x, int o, int what) {
        try {
            return x.object(o, what);
        } catch (NoSuchElementException e) {
            return THROWN;
        }
    }

    /** A get() or call() that ends in a failure with these kinds. */
    static void causes(String what, WiringHouse x, int... kinds) {
        due(what + ": outcome", x.outcome(), 1);
        for (int i = 0; i < kinds.length; i++) {
            due(what + ": cause(" + i + ")", x.cause(i), kinds[i]);
        }
        due(what + ": cause behind them", x.cause(kinds.length), 0);
    }

    static int[] row(int... numbers) {
        return numbers;
    }

    /** All that was closed: of each which, and the kind that is noted with it. */
    static void closed(WiringHouse x, int[]... rows) {
        for (int i = 0; i < rows.length; i++) {
            due("closed(" + i + ", 0)", x.closed(i, 0), rows[i][0]);
            due("closed(" + i + ", 1)", x.closed(i, 1), rows[i][1]);
        }
        due("closed(" + rows.length + ", 0)", x.closed(rows.length, 0), -1);
    }

    /** All that the latest call() did: of each what, the wrap or object, and arg. */
    static void did(WiringHouse x, int[]... rows) {
        for (int i = 0; i < rows.length; i++) {
            for (int what = 0; what < 3; what++) {
                due("did(" + i + ", " + what + ")", x.did(i, what), rows[i][what]);
            }
        }
        due("did(" + rows.length + ", 0)", x.did(rows.length, 0), -1);
    }

    static void counts(WiringHouse x, int... counts) {
        for (int what = 0; what < counts.length; what++) {
            due("count(" + what + ")", x.count(what), counts[what]);
        }
    }

    /** An object's component, PLACE and state. */
    static void object(WiringHouse x, int o, int component, int place, int state) {
        due("object(" + o + ", 0)", object(x, o, 0), component);
        due("object(" + o + ", 1)", object(x, o, 1), place);
        due("object(" + o + ", 2)", object(x, o, 2), state);
    }

    /** A get() that ends in a failure with these kinds. */
    static void getFails(WiringHouse x, int scope, int component, int... kinds) {
        String what = "get(" + scope + ", " + component + ")";
        due(what, x.get(scope, component), -1);
        causes(what, x, kinds);
    }

    /** A get() that is refused or SPENT: an outcome, and no failure. */
    static void getEnds(WiringHouse x, int scope, int component, int outcome) {
        String what = "get(" + scope + ", " + component + ")";
        due(what, x.get(scope, component), -1);
        due(what + ": outcome", x.outcome(), outcome);
        due(what + ": cause", x.cause(0), 0);
    }

    static void callFails(WiringHouse x, int scope, int object, String method, int... kinds) {
        due("call of " + method, call(x, scope, object, method, 1), 0);
        causes("call of " + method, x, kinds);
    }

    static void callEnds(WiringHouse x, int scope, int object, int method, int outcome) {
        String what = "call(" + scope + ", " + object + ", " + method + ", 1)";
        due(what, x.call(scope, object, method, 1), 0);
        due(what + ": outcome", x.outcome(), outcome);
        due(what + ": cause", x.cause(0), 0);
    }

    static void closeEnds(WiringHouse x, int scope, int answer, int outcome) {
        due("close(" + scope + ")", x.close(scope), answer);
        due("close(" + scope + "): outcome", x.outcome(), outcome);
    }

    static int call(WiringHouse x, int scope, int object, String method, int arg) {
        return x.call(scope, object, named(x, method, 3), arg);
    }

    static String times(int n, String text) {
        StringBuilder all = new StringBuilder();
        for (int i = 0; i < n; i++) {
            all.append(text.replace("#", Integer.toString(i)));
        }
        return all.toString();
    }
}
