/** Promises 1 to 8: ones, laws, the pad, sittings. */
public final class SittingsTest {
    private static final int NONE = -6, UNKNOWN = -1, OUTSIDE = -2, FULL = -4, NO = -5;
    private static final int LOW = Integer.MIN_VALUE, HIGH = Integer.MAX_VALUE;

    public static void main(String[] args) {
        newObject();
        set();
        setRefused();
        law();
        say();
        wipe();
        faultOfSittings();
        faultOfBooks();
        sitsPauses();
        sitsWithout();
        sitsHalfFree();
        sitsComings();
        sitsCoughs();
        sitsChangesNothing();
        sitsRefused();
        sit();
        sitRefused();
        Due.end("SittingsTest");
    }

    private static void newObject() {
        Due.part("promise 1");
        Council x = new Council();
        for (int one = 0; one < 6; one++) {
            Due.is("told SAVED", x.told(10 + one), 0);
            Due.is("told IN", x.told(20 + one), 1);
            Due.is("told AWAKE", x.told(30 + one), 1);
            Due.is("told DUE", x.told(40 + one), 0);
            Due.is("net", x.net(one), 1000);
            for (int to = 0; to < 6; to++) {
                Due.is("told lent", x.told(100 + 6 * one + to), 0);
            }
        }
        Due.is("told signs", x.told(0), 0);
        Due.is("told MATTERS", x.told(1), 0);
        Due.is("told COUGH", x.told(2), 5);
        Due.is("told ASKED", x.told(3), 2);
        Due.is("restore(0)", x.restore(0), SilentCouncil.STATE);
        Due.is("restore(1)", x.restore(1), SilentCouncil.STATE);
        Council y = new Council();
        x.set(0, 0, 5);
        x.say('a');
        x.image(0);
        Due.is("another object's SAVED", y.told(10), 0);
        Due.is("another object's signs", y.told(0), 0);
        Due.is("another object's image", y.restore(0), SilentCouncil.STATE);
    }

    private static void set() {
        Due.part("promise 2");
        int[] most = {999, 1, 1, 99};
        int[] first = {0, 1, 1, 0};
        Council x = new Council();
        for (int one = 0; one < 6; one++) {
            for (int what = 0; what < 4; what++) {
                Due.is("set most", x.set(one, what, most[what]), first[what]);
                Due.is("told", x.told(10 + 10 * what + one), most[what]);
                Due.is("set 0", x.set(one, what, 0), most[what]);
                Due.is("told", x.told(10 + 10 * what + one), 0);
                Due.is("set 1", x.set(one, what, 1), 0);
                Due.is("set first", x.set(one, what, first[what]), 1);
            }
        }
        Due.is("nothing else is changed", Due.all(x).equals(Due.all(new Council())) ? 1 : 0, 1);
        x.set(3, 0, 7);
        x.set(3, 3, 9);
        x.set(3, 1, 0);
        Due.is("SAVED stays of who is set out", x.told(13), 7);
        Due.is("DUE stays of who is set out", x.told(43), 9);
        x.set(3, 2, 0);
        x.set(3, 1, 1);
        Due.is("who is set in sleeps on", x.told(33), 0);
    }

    private static void setRefused() {
        int[] most = {999, 1, 1, 99};
        Council x = new Council();
        for (int one : new int[] {-1, 6, LOW, HIGH}) {
            Due.is("set unknown", x.set(one, 0, 0), UNKNOWN);
            Due.is("set unknown before outside", x.set(one, 9, -9), UNKNOWN);
        }
        for (int what : new int[] {-1, 4, LOW, HIGH}) {
            Due.is("set what", x.set(0, what, 0), OUTSIDE);
        }
        for (int what = 0; what < 4; what++) {
            for (int v : new int[] {-1, most[what] + 1, LOW, HIGH}) {
                Due.is("set v", x.set(5, what, v), OUTSIDE);
            }
        }
        Due.holds("nothing is changed", Due.all(x).equals(Due.all(new Council())));
    }

    private static void law() {
        Due.part("promise 3");
        Council x = new Council();
        Due.is("law(0, 0)", x.law(0, 0), 5);
        Due.is("law(0, 99)", x.law(0, 99), 0);
        Due.is("law(1, 0)", x.law(1, 0), 2);
        Due.is("law(1, 99)", x.law(1, 99), 0);
        Due.is("COUGH", x.told(2), 99);
        Due.is("ASKED", x.told(3), 99);
        Due.is("law(0, 98)", x.law(0, 98), 99);
        Due.is("law(1, 97)", x.law(1, 97), 99);
        for (int v : new int[] {-1, 100, LOW, HIGH}) {
            Due.is("law(0, v)", x.law(0, v), OUTSIDE);
            Due.is("law(1, v)", x.law(1, v), OUTSIDE);
        }
        for (int which : new int[] {-1, 2, LOW, HIGH}) {
            Due.is("law(which, 0)", x.law(which, 0), OUTSIDE);
        }
        Due.is("COUGH", x.told(2), 98);
        Due.is("ASKED", x.told(3), 97);
    }

    private static void say() {
        Due.part("promise 4");
        Council x = new Council();
        for (int sign : new int[] {32, 127, 0, -1, 97 + 65536, LOW, HIGH}) {
            Due.is("say " + sign, x.say(sign), OUTSIDE);
        }
        Due.is("told(0)", x.told(0), 0);
        for (int sign = 33; sign <= 126; sign++) {
            x.wipe();
            Due.is("say " + sign, x.say(sign), 1);
        }
        x.wipe();
        for (int n = 1; n <= 40; n++) {
            Due.is("say", x.say('.'), n);
            Due.is("told(0)", x.told(0), n);
        }
        Due.is("the 41st sign", x.say('.'), FULL);
        Due.is("the 41st sign", x.say(126), FULL);
        Due.is("outside before full", x.say(127), OUTSIDE);
        Due.is("told(0)", x.told(0), 40);
    }

    private static void wipe() {
        Due.part("promise 5");
        Council x = new Council();
        Due.is("wipe of none", x.wipe(), 0);
        Due.write(x, "a1.");
        Due.is("wipe", x.wipe(), 3);
        Due.is("wipe again", x.wipe(), 0);
        Due.is("told(0)", x.told(0), 0);
        Due.is("fault(0)", x.fault(0), NONE);
        for (int n = 0; n < 45; n++) {
            x.say('z');
        }
        Due.is("wipe of a full pad", x.wipe(), 40);
        Due.is("say", x.say('a'), 1);
    }

    private static void faultOfSittings() {
        Due.part("promise 6");
        String[] good = {"", "a1", "f9", ".1", ".9", "za", "zf", "ya", "xb", "ic", "kd", "?ab", "?fa",
            "a1b2c3d4e5f6.7zaybxcidke?fa", "?ab?ba", ".1.1.1.1.1.1.1.1.1.1.1.1.1.1.1.1.1.1.1.1"};
        for (String text : good) {
            fault(0, text, NONE);
        }
        String[] bad = {"g1", "A1", "1", "*", "a0", "a:", "aa", "a.", ".0", "..", "z.", "z1", "zg", "yz", "xx",
            "i`", "k?", "?.", "?1", "??", "?g", "?aa", "?ff", "?ag", "?a1", "?a?", "a1b0", "?ab?cc", "?ab1",
            "a", ".", "z", "y", "x", "i", "k", "?", "?a", "a1?", "a1?b", "a1.2z"};
        int[] places = {0, 0, 0, 0, 1, 1, 1, 1, 1, 1, 1, 1, 1, 1, 1, 1, 1, 1, 1, 1, 1, 2, 2, 2, 2, 2, 3, 5, 3,
            1, 1, 1, 1, 1, 1, 1, 1, 2, 3, 4, 5};
        for (int n = 0; n < bad.length; n++) {
            fault(0, bad[n], places[n]);
        }
        fault(0, ".1".repeat(19) + "?a", 40);
        String heads = "abcdef.zyxik?";
        for (char sign = 33; sign <= 126; sign++) {
            fault(0, "" + sign, heads.indexOf(sign) < 0 ? 0 : 1);
        }
        for (int how : new int[] {-1, 2, LOW, HIGH}) {
            Due.is("fault how", new Council().fault(how), OUTSIDE);
        }
    }

    private static void fault(int how, String text, int want) {
        Council x = new Council();
        Due.write(x, text);
        Due.is("fault(" + how + ") of " + text, x.fault(how), want);
    }

    private static void faultOfBooks() {
        fault(1, "", 0);
        String[] texts = {"a", "f", ".", "*", "abcdef", "*****", "*a*b*c*d*...", "............", ".............",
            "******", "*****......*", "*****.......*", "a1", "g", "`", "abcdefg", "............g", "aaaaaaaaaaaaa1", "A",
            "?ab", "*****1*"};
        int[] faults = {NONE, NONE, NONE, NONE, NONE, NONE, NONE, NONE, 12, 5, 11, 12, 1, 0, 0, 6, 12, 12, 0, 0, 5};
        for (int n = 0; n < texts.length; n++) {
            fault(1, texts[n], faults[n]);
        }
        for (char sign = 33; sign <= 126; sign++) {
            fault(1, "." + sign, "abcdef.*".indexOf(sign) < 0 ? 1 : NONE);
        }
    }

    private static void trial(Council x, String text, int minutes, int first, int without) {
        Due.write(x, text);
        Due.is("sits(0) of " + text, x.sits(0), minutes);
        Due.is("sits(1) of " + text, x.sits(1), first);
        Due.is("sits(2) of " + text, x.sits(2), without);
    }

    private static void ones(Council x, int row, int... want) {
        for (int one = 0; one < want.length; one++) {
            Due.is("sits(" + (row + one) + ")", x.sits(row + one), want[one]);
        }
    }

    private static void sitsPauses() {
        Due.part("promise 7");
        Council x = new Council();
        trial(x, "", 0, NONE, 0);
        ones(x, 10, 0, 0, 0, 0, 0, 0);
        ones(x, 20, 0, 0, 0, 0, 0, 0);
        trial(x, ".5a2b1.9", 17, NONE, 0);
        ones(x, 10, 2, 1, 0, 0, 0, 0);
        ones(x, 20, 13, 15, 17, 17, 17, 17);
        Due.saved(x, 999, 998, 997, 0, 0, 3);
        trial(x, ".2", 2, NONE, 0);
        ones(x, 20, 999, 999, 999, 2, 2, 5);
        trial(x, "a1.1", 2, NONE, 0);
        ones(x, 20, 999, 999, 999, 2, 2, 5);
        trial(x, "a2", 2, NONE, 0);
        ones(x, 20, 997, 999, 999, 2, 2, 5);
        trial(x, ".9".repeat(20), 180, NONE, 0);
        ones(x, 20, 999, 999, 999, 180, 180, 183);
    }

    private static void sitsWithout() {
        Council x = new Council();
        trial(x, "a1", 1, 0, 1);
        ones(x, 10, 1, 0, 0, 0, 0, 0);
        ones(x, 20, 0, 1, 1, 1, 1, 1);
        trial(x, ".2a3.1a1b9", 16, 4, 3);
        ones(x, 10, 4, 9, 0, 0, 0, 0);
        ones(x, 20, 9, 0, 16, 16, 16, 16);
        x.set(2, 0, 9);
        x.set(2, 2, 0);
        trial(x, "c3", 3, 0, 3);
        ones(x, 20, 3, 3, 9, 3, 3, 3);
        x.set(2, 2, 1);
        x.set(2, 1, 0);
        x.set(2, 3, 4);
        trial(x, ".1c3", 4, 1, 3);
        ones(x, 20, 4, 4, 9, 4, 4, 4);
        ones(x, 30, 0, 0, 4, 0, 0, 0);
    }

    private static void sitsHalfFree() {
        Council x = new Council();
        x.law(1, 5);
        x.set(1, 0, 20);
        trial(x, "?abb1", 1, NONE, 0);
        ones(x, 20, 1, 20);
        ones(x, 30, 0, 4);
        trial(x, "?abb2", 2, NONE, 0);
        ones(x, 20, 2, 19);
        ones(x, 30, 0, 3);
        trial(x, "?abb7", 7, NONE, 0);
        ones(x, 20, 7, 16);
        ones(x, 30, 0, 0);
        trial(x, "?abb1.3c1b1?abb1", 7, NONE, 0);
        ones(x, 20, 7, 23, 5);
        ones(x, 30, 0, 4, 0);
        x.set(0, 3, 99);
        trial(x, "a3", 3, 1, 2);
        ones(x, 30, 98, 0);
        x.law(1, 0);
        trial(x, "?baa1", 1, 0, 1);
        ones(x, 30, 0, 0);
        x.law(1, 99);
        trial(x, "?cd", 0, NONE, 0);
        ones(x, 30, 99, 0, 0, 99, 0, 0);
        x.law(1, 1);
        trial(x, "?cdd2", 2, 1, 1);
        ones(x, 30, 99, 0, 0, 0, 0, 0);
        x.set(3, 0, 1);
        trial(x, "?cdd2", 2, NONE, 0);
        x.law(1, 7);
        for (String text : new String[] {"zc?cd", "zd?cd", "xc?cd", "xd?cd", "xcyc?cd", "xdyd?cd"}) {
            trial(x, text, 0, NONE, 0);
            Due.is("DUE is as it was: " + text, x.sits(33), 0);
        }
        trial(x, "zcyc?cdzd", 0, NONE, 0);
        Due.is("DUE stays of who falls asleep", x.sits(33), 7);
        trial(x, "zdxdid?cd", 0, NONE, 0);
        Due.is("DUE of who came in", x.sits(33), 7);
    }

    private static void sitsComings() {
        Council x = new Council();
        Due.saved(x, 5, 5, 5, 5, 5, 5);
        x.set(0, 3, 3);
        trial(x, "xa", 0, NONE, 0);
        Due.is("SAVED of who leaves", x.sits(20), 0);
        Due.is("DUE of who leaves", x.sits(30), 0);
        trial(x, "xa.2ia.3", 5, NONE, 0);
        ones(x, 20, 3, 10, 10, 10, 10, 10);
        trial(x, "za.2ia.3", 5, NONE, 0);
        ones(x, 20, 8, 10, 10, 10, 10, 10);
        trial(x, "za.2ya.3", 5, NONE, 0);
        ones(x, 20, 8, 10, 10, 10, 10, 10);
        trial(x, "za.2xa.1ya.1ia.1", 5, NONE, 0);
        ones(x, 20, 1, 10, 10, 10, 10, 10);
        trial(x, "zaxaia.4a3", 7, NONE, 0);
        ones(x, 20, 1, 12, 12, 12, 12, 12);
        trial(x, "xayaa1", 1, 0, 1);
        trial(x, "zbb1ybb1", 2, 0, 1);
    }

    private static void sitsCoughs() {
        Council x = new Council();
        Due.saved(x, 7, 5, 4, 20, 20, 0);
        trial(x, "kakbkckdkdzekekf", 0, NONE, 0);
        ones(x, 20, 2, 0, 0, 10, 15, 0);
        x.law(0, 99);
        trial(x, ".9ka.2kbkb", 11, NONE, 0);
        ones(x, 20, 2, 0, 15, 31, 31, 11);
        x.law(0, 0);
        trial(x, "kakb", 0, NONE, 0);
        ones(x, 20, 7, 5);
        x.law(0, 3);
        x.set(3, 1, 0);
        trial(x, "kd", 0, NONE, 0);
        Due.is("who is out does not cough", x.sits(23), 20);
    }

    private static void sitsChangesNothing() {
        Council x = new Council();
        Due.saved(x, 7, 5, 4, 20, 20, 0);
        x.law(1, 9);
        Due.write(x, ".9xazb?cdkea3");
        String before = Due.all(x);
        Due.is("sits(0)", x.sits(0), 12);
        Due.is("sits(0)", x.sits(0), 12);
        Due.is("sits(23)", x.sits(23), 32);
        Due.is("sits(33)", x.sits(33), 9);
        Due.holds("sits changes nothing", Due.all(x).equals(before));
    }

    private static void sitsRefused() {
        Council x = new Council();
        for (int what : new int[] {-1, 3, 9, 16, 19, 26, 29, 36, 40, 45, 110, -10, -15, LOW, HIGH}) {
            Due.is("sits " + what, x.sits(what), OUTSIDE);
        }
        Due.write(x, "a");
        Due.is("sits of a fault", x.sits(0), NO);
        Due.is("sits of a fault", x.sits(10), NO);
        Due.is("outside before no", x.sits(3), OUTSIDE);
        Due.is("outside before no", x.sits(16), OUTSIDE);
    }

    private static void sit() {
        Due.part("promise 8");
        Council x = new Council();
        Due.is("sit of nothing", x.sit(), 0);
        x.law(1, 3);
        x.law(0, 2);
        Due.write(x, ".4?abb1zcydxe.1ieifkaxf");
        Due.is("sit", x.sit(), 6);
        int[] saved = {4, 5, 5, 6, 0, 0};
        int[] in = {1, 1, 1, 1, 1, 0};
        int[] awake = {1, 1, 0, 1, 1, 1};
        int[] due = {0, 2, 0, 0, 0, 0};
        for (int one = 0; one < 6; one++) {
            Due.is("SAVED", x.told(10 + one), saved[one]);
            Due.is("IN", x.told(20 + one), in[one]);
            Due.is("AWAKE", x.told(30 + one), awake[one]);
            Due.is("DUE", x.told(40 + one), due[one]);
        }
        Due.is("signs", x.told(0), 0);
        Due.is("COUGH", x.told(2), 2);
        Due.is("ASKED", x.told(3), 3);
        Due.write(x, "b2");
        Due.is("sit on", x.sit(), 2);
        Due.is("SAVED", x.told(11), 4);
        Due.is("DUE", x.told(41), 0);
    }

    private static void sitRefused() {
        for (String text : new String[] {"a", "a0", "?aa", "*", "a1", ".1a2", ".3zaa1", ".3xaa1"}) {
            Council x = new Council();
            Due.write(x, text);
            String before = Due.all(x);
            Due.is("sit of " + text, x.sit(), NO);
            Due.holds("nothing is changed by " + text, Due.all(x).equals(before));
        }
        Council x = new Council();
        Due.write(x, ".1a2b1");
        Due.is("a later minute is with", x.sit(), NO);
        x.set(0, 0, 1);
        Due.is("sit", x.sit(), 4);
    }
}
