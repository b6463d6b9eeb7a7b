/** Promises 14 to 16: lent, nets, gifts. */
public final class LentTest {
    private static final int UNKNOWN = -1, OUTSIDE = -2;
    private static final int LOW = Integer.MIN_VALUE, HIGH = Integer.MAX_VALUE;

    public static void main(String[] args) {
        lend();
        lendRefused();
        net();
        gifts();
        Due.end("LentTest");
    }

    private static void lend() {
        Due.part("promise 14");
        Council x = new Council();
        for (int one = 0; one < 6; one++) {
            for (int to = 0; to < 6; to++) {
                if (one != to) {
                    Due.is("lend", x.lend(one, to, 6 * one + to), 0);
                }
            }
        }
        for (int one = 0; one < 6; one++) {
            for (int to = 0; to < 6; to++) {
                Due.is("told", x.told(100 + 6 * one + to), one == to ? 0 : 6 * one + to);
            }
        }
        Due.is("lend again", x.lend(2, 5, 99), 17);
        Due.is("lend again", x.lend(2, 5, 0), 99);
        Due.is("the other way is another", x.lend(5, 2, 1), 32);
    }

    private static void lendRefused() {
        Council x = new Council();
        for (int one : new int[] {-1, 6, LOW, HIGH}) {
            Due.is("lend of " + one, x.lend(one, 0, 1), UNKNOWN);
            Due.is("lend to " + one, x.lend(0, one, 1), UNKNOWN);
            Due.is("both", x.lend(one, one, 1), UNKNOWN);
            Due.is("unknown before outside", x.lend(one, 0, 100), UNKNOWN);
        }
        for (int one = 0; one < 6; one++) {
            Due.is("lend to oneself", x.lend(one, one, 1), UNKNOWN);
            Due.is("unknown before outside", x.lend(one, one, -1), UNKNOWN);
        }
        for (int v : new int[] {-1, 100, LOW, HIGH}) {
            Due.is("lend " + v, x.lend(0, 1, v), OUTSIDE);
        }
        Due.holds("nothing is changed", Due.all(x).equals(Due.all(new Council())));
    }

    private static void net() {
        Due.part("promise 15");
        Council x = new Council();
        x.lend(0, 1, 9);
        x.lend(1, 0, 4);
        x.lend(2, 0, 1);
        Due.is("net(0)", x.net(0), 1004);
        Due.is("net(1)", x.net(1), 995);
        Due.is("net(2)", x.net(2), 1001);
        Due.is("net(3)", x.net(3), 1000);
        for (int to = 0; to < 5; to++) {
            x.lend(5, to, 99);
        }
        Due.is("net(5)", x.net(5), 1495);
        Council y = new Council();
        for (int one = 1; one < 6; one++) {
            y.lend(one, 0, 99);
        }
        Due.is("net(0)", y.net(0), 505);
        for (int one : new int[] {-1, 6, LOW, HIGH}) {
            Due.is("net of " + one, x.net(one), UNKNOWN);
        }
    }

    /** The nets stand as what d lends, below 0, and is lent, above 0, to who has them. */
    private static void gifts(int want, int... nets) {
        Council x = new Council();
        for (int one = 0; one < 6; one++) {
            int net = one < nets.length ? nets[one] : 0;
            if (one != 5 && net > 0) {
                x.lend(one, 5, net);
            } else if (one != 5) {
                x.lend(5, one, -net);
            }
        }
        Due.is("gifts", x.gifts(), want);
    }

    private static void gifts() {
        Due.part("promise 16");
        Due.is("gifts of none", new Council().gifts(), 0);
        gifts(1, 7);
        gifts(1, 7, -7);
        gifts(2, 7, -7, 3);
        gifts(2, 7, -7, 3, -3);
        gifts(3, 1, 2, -3, 4);
        gifts(3, 1, 2, -3, 5, -5);
        gifts(5, 1, 2, 3, 4, 5);
        gifts(4, 1, 2, -3, 4, 5);
        gifts(4, 3, 5, -8, 9, 1);
        gifts(3, 3, 5, -3, -5, 9);
        gifts(4, 10, 10, 10, -15, -15);
        Council x = new Council();
        for (int one = 0; one < 6; one++) {
            for (int to = 0; to < 6; to++) {
                x.lend(one, to, 99);
            }
        }
        Due.is("all owe the same", x.gifts(), 0);
        x.lend(0, 1, 98);
        Due.is("one minute", x.gifts(), 1);
    }
}
