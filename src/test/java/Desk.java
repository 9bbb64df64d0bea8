import java.util.NoSuchElementException;

/** What the tests share: feeding texts, and comparing answers with those that are due. */
final class Desk {
    private static int wrong;

    private Desk() {
    }

    static void due(String what, long got, long want) {
        if (got != want) {
            wrong++;
            System.out.println(what + " answered " + got + ", due is " + want);
        }
    }

    static void due(String what, boolean got, boolean want) {
        due(what, got ? 1 : 0, want ? 1 : 0);
    }

    static void finish(String name) {
        System.out.println(name + ": " + (wrong == 0 ? "all answers are as due" : wrong + " answers are not as due"));
        if (wrong != 0) {
            System.exit(1);
        }
    }

    /** Feeds a text by 24 signs a call; the bytes behind its end are 0, which feed() leaves out. */
    static int feed(WiringHouse x, String text) {
        int length = x.count(12);
        for (int i = 0; i < text.length(); i += 24) {
            length = x.feed(eight(text, i), eight(text, i + 8), eight(text, i + 16));
        }
        return length;
    }

    static long eight(String text, int from) {
        long bytes = 0;
        for (int i = from; i < from + 8; i++) {
            bytes = bytes << 8 | (i < text.length() ? text.charAt(i) : 0);
        }
        return bytes;
    }

    static int book(WiringHouse x, String text) {
        feed(x, text);
        return x.book();
    }

    static int named(WiringHouse x, String text, int sort) {
        feed(x, text);
        return x.named(sort);
    }

    /** A house with that book, which must have no FAULT. */
    static WiringHouse house(String text) {
        WiringHouse x = new WiringHouse();
        due("book of " + text, book(x, text), 0);
        return x;
    }

    /** A house with that book that is READY. */
    static WiringHouse ready(String text) {
        WiringHouse x = house(text);
        due("check of " + text, x.check(), 0);
        return x;
    }

    /** A new object's FAULT for a text, told by kind and place. */
    static void fault(String text, int kind, int place) {
        due("book of " + text, book(new WiringHouse(), text), kind + 16 * place);
    }

    /** The FAULT of a text stands where the mark ^ does, which is left out of the text. */
    static void fault(int kind, String marked) {
        int place = marked.indexOf('^');
        fault(marked.substring(0, place) + marked.substring(place + 1), kind, place);
    }

    static void fine(String text) {
        fault(text, 0, 0);
    }

    static final int THROWN = -1000;

    static int component(WiringHouse x, int c, int what) {
        try {
            return x.component(c, what);
        } catch (NoSuchElementException e) {
            return THROWN;
        }
    }

    static int object(WiringHouse x, int o, int what) {
        try {
            return x.object(o, what);
        } catch (NoSuchElementException e) {
            return THROWN;
        }
    }

    /** A get() or call() that ends in a failure with these kinds. */
    static void causes(String what, WiringHouse x, int... kinds) {
        due(what + ": outcome", x.outcome(), 1);
        for (int i = 0; i < kinds.length; i++) {
            due(what + ": cause(" + i + ")", x.cause(i), kinds[i]);
        }
        due(what + ": cause behind them", x.cause(kinds.length), 0);
    }

    static String times(int n, String text) {
        StringBuilder all = new StringBuilder();
        for (int i = 0; i < n; i++) {
            all.append(text.replace("#", Integer.toString(i)));
        }
        return all.toString();
    }
}
