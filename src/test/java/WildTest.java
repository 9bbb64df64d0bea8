import java.util.Random;

/** Any call in any state answers or throws what the document names: spoilt texts and wild arguments. */
final class WildTest {
    private static final String BOOK = "type a; type b like a; setting s 1; component k is a house called w rank 2 { need b; need late a; need all b; opened of 0.m(1) + setting s; "
        + "method m pick(arg < 3, of 1.n(arg + 1), -arg * 2); closed of 2.n(4) = 4; } component d is b day when s 1 { method n fail 3; method m arg; } "
        + "component e is b new rank 3 { method n (arg); method m arg; } wrap a.m 7 before arg + 1; wrap b.m 8 around go(arg) - go(2); wrap a.n 9 after arg; wrap a.n 10 failing arg;";
    private static final int[] EDGES = {0, 1, 2, 3, 8, 24, 39, 40, 100, 299, 300, -1, -2, Integer.MAX_VALUE, Integer.MIN_VALUE};

    private WildTest() {
    }

    public static void main(String[] args) {
        Desk.fine(BOOK);
        Random random = new Random(5);
        for (int run = 0; run < 3000; run++) {
            WiringHouse x = new WiringHouse();
            int calls = random.nextInt(200);
            for (int i = 0; i < calls; i++) {
                if (!isCalm(x, random)) {
                    Desk.due("an exception in run " + run, 1, 0);
                    break;
                }
            }
        }
        prefixes();
        Desk.finish("WildTest");
    }

    /** A text that is cut is wrong at its end, or at a token that was cut; what it is told does not depend on what is behind. */
    private static void prefixes() {
        for (int length = 0; length < BOOK.length(); length++) {
            int fault = Desk.book(new WiringHouse(), BOOK.substring(0, length));
            int place = fault / 16;
            Desk.due("a fault's kind, of the first " + length, fault % 16 <= 5, true);
            Desk.due("a fault's place, of the first " + length, place <= length, true);
            int longer = Desk.book(new WiringHouse(), BOOK.substring(0, length) + " #");
            Desk.due("the wrong sign behind the first " + length, longer != 0, true);
            if (place < length && fault != 0) {
                Desk.due("what is behind the first " + length, longer, fault);
            }
        }
    }

    private static int any(Random random) {
        return random.nextInt(3) == 0 ? EDGES[random.nextInt(EDGES.length)] : random.nextInt(4);
    }

    private static String text(Random random) {
        StringBuilder text = new StringBuilder(BOOK);
        int changes = random.nextInt(3);
        for (int k = 0; k < changes; k++) {
            int at = random.nextInt(text.length());
            int from = random.nextInt(BOOK.length());
            String piece = BOOK.substring(from, Math.min(BOOK.length(), from + random.nextInt(12)));
            text.replace(at, Math.min(text.length(), at + random.nextInt(8)), piece);
        }
        return text.toString();
    }

    private static boolean isCalm(WiringHouse x, Random random) {
        try {
            act(x, random);
            return true;
        } catch (java.util.NoSuchElementException e) {
            return true;
        } catch (RuntimeException e) {
            System.out.println(e);
            return false;
        }
    }

    private static void act(WiringHouse x, Random random) {
        int a = any(random);
        int b = any(random);
        int c = any(random);
        switch (random.nextInt(24)) {
            case 0: x.feed(random.nextLong(), random.nextLong(), random.nextLong()); break;
            case 1: Desk.book(x, random.nextInt(4) == 0 ? text(random) : BOOK); break;
            case 2: x.named(a); break;
            case 3: x.setting(a, b); break;
            case 4: x.fault(a, b); break;
            case 5: x.cycle(a, b); break;
            case 6: x.component(a, b); break;
            case 7: x.candidate(a, b, c); break;
            case 8: x.day(); break;
            case 9: x.meal(a); break;
            case 10:
            case 11:
            case 12: x.get(a, b); break;
            case 13:
            case 14: x.call(a, b, c, any(random)); break;
            case 15: x.close(a); break;
            case 16: x.cause(a); break;
            case 17: x.object(a, b); break;
            case 18: x.joined(a, b, c); break;
            case 19: x.closed(a, b); break;
            case 20: x.spoiled(a, b); break;
            case 21: x.did(a, b); break;
            case 22: x.count(a); break;
            default: x.check(); break;
        }
    }
}
