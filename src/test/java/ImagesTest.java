/** Promises 21 to 23: images, restore, told. */
public final class ImagesTest {
    private static final int OUTSIDE = -2, STATE = -3;
    private static final int LOW = Integer.MIN_VALUE, HIGH = Integer.MAX_VALUE;

    public static void main(String[] args) {
        image();
        restore();
        restoreBehind();
        restoreRefused();
        told();
        Due.end("ImagesTest");
    }

    /** Changes each thing that an image keeps. */
    private static void stir(Council x, int seed) {
        for (int one = 0; one < 6; one++) {
            x.set(one, 0, seed * 7 + one);
            x.set(one, 1, seed + one & 1);
            x.set(one, 2, seed + one >> 1 & 1);
            x.set(one, 3, seed * 5 + one);
            for (int to = 0; to < 6; to++) {
                x.lend(one, to, seed + 3 * one + to);
            }
        }
        x.law(0, seed);
        x.law(1, seed + 1);
        x.clear();
        for (int n = 0; n < seed && n < 8; n++) {
            x.matter((n + seed) % 6, n + seed, n);
        }
    }

    private static Council stirred(int seed) {
        Council x = new Council();
        stir(x, seed);
        return x;
    }

    private static void image() {
        Due.part("promise 21");
        Council x = new Council();
        String then = Due.all(stirred(3));
        stir(x, 3);
        Due.is("image(0)", x.image(0), 1);
        Due.is("image(1)", x.image(1), 1);
        Due.holds("an image changes nothing", Due.all(x).equals(then));
        for (int n : new int[] {-1, 2, LOW, HIGH}) {
            Due.is("image(" + n + ")", x.image(n), OUTSIDE);
        }
        stir(x, 5);
        Due.is("image(0) once more", x.image(0), 1);
        String later = Due.all(stirred(5));
        x.clear();
        Due.is("restore(0)", x.restore(0), 1);
        Due.holds("the later one stands in 0", Due.all(x).equals(later));
        Due.is("restore(1)", x.restore(1), 1);
        Due.holds("the first one stands in 1", Due.all(x).equals(then));
    }

    private static void restore() {
        Due.part("promise 22");
        Council x = new Council();
        String fresh = Due.all(new Council());
        String eight = Due.all(stirred(8));
        x.image(1);
        stir(x, 8);
        int least = x.least(-1);
        int gifts = x.gifts();
        x.image(0);
        Due.is("restore(1)", x.restore(1), 1);
        Due.holds("as new", Due.all(x).equals(fresh));
        Due.is("restore(0)", x.restore(0), 1);
        Due.holds("as kept", Due.all(x).equals(eight));
        Due.is("least", x.least(-1), least);
        Due.is("gifts", x.gifts(), gifts);
        stir(x, 2);
        Due.is("restore(0) again", x.restore(0), 1);
        Due.holds("as kept again", Due.all(x).equals(eight));
    }

    private static void restoreBehind() {
        Council x = new Council();
        String fresh = Due.all(new Council());
        x.image(1);
        x.restore(1);
        x.set(0, 0, 9);
        x.lend(0, 1, 9);
        x.matter(0, 9, 0);
        x.restore(1);
        Due.holds("what is changed behind a restore is not in the image", Due.all(x).equals(fresh));
        Due.write(x, "a1");
        x.image(0);
        Due.write(x, ".5b");
        x.restore(0);
        Due.is("the pad is as it is", x.told(0), 3);
        x.wipe();
        x.restore(0);
        Due.is("the pad is as it is", x.told(0), 0);
    }

    private static void restoreRefused() {
        Council x = new Council();
        for (int n : new int[] {-1, 2, LOW, HIGH}) {
            Due.is("restore(" + n + ")", x.restore(n), OUTSIDE);
        }
        stir(x, 4);
        String then = Due.all(x);
        Due.is("restore(0)", x.restore(0), STATE);
        Due.is("restore(1)", x.restore(1), STATE);
        x.image(1);
        Due.is("restore(0)", x.restore(0), STATE);
        Due.holds("nothing is changed", Due.all(x).equals(then));
        Due.is("restore(1)", x.restore(1), 1);
    }

    private static void told() {
        Due.part("promise 23");
        Council x = new Council();
        stir(x, 3);
        Due.write(x, "a1b");
        Due.is("signs", x.told(0), 3);
        Due.is("MATTERS", x.told(1), 3);
        Due.is("COUGH", x.told(2), 3);
        Due.is("ASKED", x.told(3), 4);
        for (int one = 0; one < 6; one++) {
            Due.is("SAVED", x.told(10 + one), 21 + one);
            Due.is("IN", x.told(20 + one), 3 + one & 1);
            Due.is("AWAKE", x.told(30 + one), 3 + one >> 1 & 1);
            Due.is("DUE", x.told(40 + one), 15 + one);
            for (int to = 0; to < 6; to++) {
                Due.is("lent", x.told(100 + 6 * one + to), one == to ? 0 : 3 + 3 * one + to);
            }
        }
        for (int what = -60; what < 300; what++) {
            x = what % 100 == 0 ? stirred(3) : x;
            boolean known = what >= 0 && what <= 3 || what >= 10 && what < 50 && what % 10 < 6
                || what >= 100 && what < 136;
            Due.is("told(" + what + ")", x.told(what) == OUTSIDE ? 1 : 0, known ? 0 : 1);
        }
        Due.is("told(LOW)", x.told(LOW), OUTSIDE);
        Due.is("told(HIGH)", x.told(HIGH), OUTSIDE);
    }
}
