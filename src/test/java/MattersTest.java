/** Promises 9 to 13: matters, the least sitting, dealt silence. */
public final class MattersTest {
    private static final int NONE = -6, UNKNOWN = -1, OUTSIDE = -2, FULL = -4, NO = -5;
    private static final int LOW = Integer.MIN_VALUE, HIGH = Integer.MAX_VALUE;

    public static void main(String[] args) {
        matter();
        matterRefused();
        about();
        clear();
        least();
        leastEdges();
        order();
        dealt();
        dealtRefused();
        Due.end("MattersTest");
    }

    private static void matter() {
        Due.part("promise 9");
        Council x = new Council();
        for (int n = 0; n < 8; n++) {
            Due.is("matter", x.matter(n % 6, n == 0 ? 1 : 60, (1 << n) - 1), n);
            Due.is("told(1)", x.told(1), n + 1);
        }
        for (int n = 0; n < 8; n++) {
            Due.is("by", x.about(n, 0), n % 6);
            Due.is("minutes", x.about(n, 1), n == 0 ? 1 : 60);
            Due.is("behind", x.about(n, 2), (1 << n) - 1);
        }
        Due.is("a ninth", x.matter(0, 1, 0), FULL);
        Due.is("a ninth", x.matter(5, 60, 255), FULL);
        Due.is("unknown before full", x.matter(6, 1, 0), UNKNOWN);
        Due.is("outside before full", x.matter(0, 61, 0), OUTSIDE);
        Due.is("outside before full", x.matter(0, 1, 256), OUTSIDE);
        Due.is("told(1)", x.told(1), 8);
    }

    private static void matterRefused() {
        Council x = new Council();
        x.matter(0, 5, 0);
        x.matter(1, 5, 0);
        for (int one : new int[] {-1, 6, LOW, HIGH}) {
            Due.is("matter of " + one, x.matter(one, 1, 0), UNKNOWN);
            Due.is("unknown before outside", x.matter(one, 0, 99), UNKNOWN);
        }
        for (int minutes : new int[] {0, -1, 61, LOW, HIGH}) {
            Due.is("minutes " + minutes, x.matter(0, minutes, 0), OUTSIDE);
        }
        for (int behind : new int[] {-1, 4, 5, 7, 256, LOW, HIGH}) {
            Due.is("behind " + behind, x.matter(0, 1, behind), OUTSIDE);
        }
        Due.is("told(1)", x.told(1), 2);
        Due.is("behind both", x.matter(0, 1, 3), 2);
    }

    private static void about() {
        Due.part("promise 10");
        Council x = new Council();
        Due.is("about none", x.about(0, 0), UNKNOWN);
        x.matter(5, 60, 0);
        x.matter(3, 2, 1);
        Due.is("by", x.about(0, 0), 5);
        Due.is("minutes", x.about(0, 1), 60);
        Due.is("behind", x.about(0, 2), 0);
        Due.is("by", x.about(1, 0), 3);
        Due.is("minutes", x.about(1, 1), 2);
        Due.is("behind", x.about(1, 2), 1);
        for (int matter : new int[] {-1, 2, 8, LOW, HIGH}) {
            Due.is("about " + matter, x.about(matter, 0), UNKNOWN);
            Due.is("unknown before outside", x.about(matter, 3), UNKNOWN);
        }
        for (int what : new int[] {-1, 3, LOW, HIGH}) {
            Due.is("about what " + what, x.about(0, what), OUTSIDE);
        }
    }

    private static void clear() {
        Due.part("promise 11");
        Council x = new Council();
        Due.is("clear of none", x.clear(), 0);
        for (int n = 0; n < 8; n++) {
            x.matter(n % 6, 3, 0);
        }
        x.set(0, 0, 4);
        Due.is("clear", x.clear(), 8);
        Due.is("clear again", x.clear(), 0);
        Due.is("told(1)", x.told(1), 0);
        Due.is("about", x.about(0, 0), UNKNOWN);
        Due.is("least", x.least(-1), 0);
        Due.is("SAVED stays", x.told(10), 4);
        Due.is("behind what went", x.matter(0, 1, 1), OUTSIDE);
        Due.is("matter", x.matter(0, 1, 0), 0);
    }

    private static void order(Council x, int least, int... order) {
        Due.is("least(-1)", x.least(-1), least);
        for (int n = 0; n < order.length; n++) {
            Due.is("least(" + n + ")", x.least(n), order[n]);
        }
        Due.is("behind the last", x.least(order.length), NONE);
    }

    private static void least() {
        Due.part("promise 12");
        Council x = new Council();
        order(x, 0);
        x.matter(0, 4, 0);
        order(x, 8, 0);
        x.set(0, 0, 3);
        order(x, 5, 0);
        x.set(0, 0, 4);
        order(x, 4, 0);
        x.set(0, 0, 999);
        order(x, 4, 0);
        x.matter(1, 4, 0);
        order(x, 8, 0, 1);
        x.set(0, 0, 0);
        order(x, 12, 0, 1);
        x.set(1, 0, 4);
        order(x, 8, 1, 0);
        x.matter(1, 2, 2);
        x.set(1, 0, 3);
        order(x, 11, 1, 0, 2);
    }

    private static void leastEdges() {
        Council x = new Council();
        for (int i : new int[] {-2, 0, 1, 7, 8, LOW, HIGH}) {
            Due.is("least of none " + i, x.least(i), NONE);
        }
        for (int n = 0; n < 8; n++) {
            x.matter(0, 60, n == 0 ? 0 : 1 << n - 1);
        }
        order(x, 960, 0, 1, 2, 3, 4, 5, 6, 7);
        x.set(0, 0, 999);
        order(x, 480, 0, 1, 2, 3, 4, 5, 6, 7);
        for (int i : new int[] {-2, 8, LOW, HIGH}) {
            Due.is("least " + i, x.least(i), NONE);
        }
        x.clear();
        x.set(0, 0, 5);
        x.set(0, 1, 0);
        x.set(0, 2, 0);
        x.set(0, 3, 9);
        x.matter(0, 5, 0);
        x.matter(0, 2, 0);
        order(x, 9, 0, 1);
        Due.is("IN stays", x.told(20), 0);
        Due.is("SAVED stays", x.told(10), 5);
    }

    private static void order() {
        Council x = new Council();
        x.matter(0, 10, 0);
        x.matter(1, 1, 0);
        x.matter(2, 2, 0);
        x.matter(3, 3, 0);
        order(x, 20, 1, 2, 3, 0);
        x.matter(4, 1, 1);
        order(x, 21, 1, 2, 3, 0, 4);
        x.set(1, 0, 1);
        order(x, 21, 1, 2, 3, 0, 4);
        x.set(0, 0, 9);
        order(x, 17, 1, 0, 2, 3, 4);
        x.set(1, 0, 0);
        order(x, 18, 0, 1, 2, 3, 4);
        x.matter(1, 1, 16);
        x.matter(2, 5, 0);
        order(x, 24, 0, 1, 2, 3, 4, 5, 6);
    }

    private static void dealt() {
        Due.part("promise 13");
        Council x = new Council();
        x.matter(1, 5, 0);
        x.matter(4, 5, 0);
        x.set(1, 0, 999);
        deal(x, 0, 15, NONE, 0, NONE, NONE, 0, NONE);
        deal(x, 2, 13, NONE, 2, NONE, NONE, 0, NONE);
        deal(x, 5, 10, NONE, 5, NONE, NONE, 0, NONE);
        deal(x, 20, 10, NONE, 20, NONE, NONE, 0, NONE);
        x.matter(1, 1, 2);
        deal(x, 5, 11, NONE, 5, NONE, NONE, 0, NONE);
        Due.is("SAVED stays", x.told(11), 999);
        x.clear();
        x.matter(4, 5, 0);
        x.matter(1, 5, 1);
        x.matter(4, 1, 0);
        deal(x, 4, 12, NONE, 0, NONE, NONE, 4, NONE);
        deal(x, 5, 11, NONE, 0, NONE, NONE, 5, NONE);
        deal(x, 6, 11, NONE, 1, NONE, NONE, 5, NONE);
        x.matter(0, 1, 0);
        x.matter(5, 1, 0);
        Due.is("four have matters", x.dealt(20, -1), 13);
        Due.is("four have matters", x.dealt(20, 2), NONE);
    }

    private static void deal(Council x, int minutes, int least, int... shares) {
        Due.is("dealt(" + minutes + ", -1)", x.dealt(minutes, -1), least);
        for (int one = 0; one < shares.length; one++) {
            Due.is("dealt(" + minutes + ", " + one + ")", x.dealt(minutes, one), shares[one]);
        }
    }

    private static void dealtRefused() {
        Council x = new Council();
        Due.is("nobody has matters", x.dealt(0, -1), NO);
        Due.is("nobody has matters", x.dealt(20, 0), NO);
        for (int one : new int[] {-2, 6, LOW, HIGH}) {
            Due.is("dealt to " + one, x.dealt(0, one), UNKNOWN);
            Due.is("unknown before outside", x.dealt(21, one), UNKNOWN);
        }
        for (int minutes : new int[] {-1, 21, LOW, HIGH}) {
            Due.is("dealt " + minutes, x.dealt(minutes, 0), OUTSIDE);
            Due.is("dealt " + minutes, x.dealt(minutes, -1), OUTSIDE);
        }
        for (int one = 0; one < 5; one++) {
            x.matter(one, 1, 0);
        }
        Due.is("five have matters", x.dealt(3, -1), NO);
        Due.is("five have matters", x.dealt(3, 0), NO);
        Due.is("no before none", x.dealt(3, 5), NO);
        Due.is("outside before no", x.dealt(21, 0), OUTSIDE);
        Due.is("unknown before no", x.dealt(3, 6), UNKNOWN);
    }
}
