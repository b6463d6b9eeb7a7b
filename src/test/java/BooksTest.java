/** Promises 17 to 20: books with holes, the first false line, the floor, friends. */
public final class BooksTest {
    private static final int NONE = -6, UNKNOWN = -1, OUTSIDE = -2, NO = -5, EVER = 1000000;
    private static final int LOW = Integer.MIN_VALUE, HIGH = Integer.MAX_VALUE;

    public static void main(String[] args) {
        filled();
        filledEdges();
        filledRefused();
        lie();
        floor();
        friends();
        Due.end("BooksTest");
    }

    private static void ways(Council x, String text, String... ways) {
        Due.write(x, text);
        Due.is("filled(-1, 0) of " + text, x.filled(-1, 0), ways.length);
        for (int i = 0; i < ways.length; i++) {
            for (int k = 0; k < text.length(); k++) {
                Due.is("filled(" + i + ", " + k + ") of " + text, x.filled(i, k), ways[i].charAt(k));
            }
            Due.is("behind the last minute", x.filled(i, text.length()), NONE);
        }
        Due.is("behind the last way", x.filled(ways.length, 0), NONE);
    }

    private static void filled() {
        Due.part("promise 17");
        Council x = new Council();
        ways(x, "a");
        ways(x, ".", ".");
        ways(x, "*", ".");
        ways(x, ".a*", ".ab", ".ac", ".ad", ".ae", ".af", ".a.");
        ways(x, ".*a", ".ba", ".ca", ".da", ".ea", ".fa", "..a");
        ways(x, "*.aa", "..aa");
        ways(x, "*aaaa");
        Due.saved(x, 1, 0, 1);
        ways(x, "**a", "aba", "aca", "ada", "aea", "afa", "a.a", "caa", "cba", "cda", "cea", "cfa", "c.a",
            ".aa", ".ba", ".ca", ".da", ".ea", ".fa", "..a");
        ways(x, "acbdefacb.de", "acbdefacb.de");
        x.set(0, 0, 2);
        ways(x, "aaa");
        x.set(0, 0, 3);
        ways(x, "aaa", "aaa");
    }

    private static void filledEdges() {
        Council x = new Council();
        Due.saved(x, 999, 999, 999, 999, 999, 999);
        Due.write(x, "a*b*c*d*e*f.");
        Due.is("all ways", x.filled(-1, 0), 16807);
        Due.is("k is not looked at", x.filled(-1, HIGH), 16807);
        Due.is("the first", x.filled(0, 1), 'a');
        Due.is("the first", x.filled(0, 9), 'a');
        Due.is("the second", x.filled(1, 7), 'a');
        Due.is("the second", x.filled(1, 9), 'b');
        Due.is("the seventh", x.filled(6, 9), '.');
        Due.is("the eighth", x.filled(7, 7), 'b');
        Due.is("the last", x.filled(16806, 1), '.');
        Due.is("the last", x.filled(16806, 11), '.');
        Due.is("the last", x.filled(16806, 10), 'f');
        Due.is("one more", x.filled(16807, 0), NONE);
        for (int i : new int[] {-2, LOW, HIGH, 1000000}) {
            Due.is("filled i " + i, x.filled(i, 0), NONE);
        }
        for (int k : new int[] {-1, 12, LOW, HIGH}) {
            Due.is("filled k " + k, x.filled(0, k), NONE);
        }
        x.set(0, 1, 0);
        x.set(1, 2, 0);
        x.set(2, 3, 9);
        Due.is("out, asleep and half free are nothing to it", x.filled(-1, 0), 16807);
        Due.saved(x, 1, 0);
        x.set(0, 3, 9);
        Due.write(x, "aa");
        Due.is("nothing is half free", x.filled(-1, 0), 0);
        Due.is("SAVED stays", x.told(10), 1);
    }

    private static void filledRefused() {
        Council x = new Council();
        for (String text : new String[] {"", "1", "a1", "******", ".............", "g"}) {
            Due.write(x, text);
            Due.is("filled of " + text, x.filled(-1, 0), NO);
            Due.is("filled of " + text, x.filled(0, 0), NO);
            Due.is("no before none", x.filled(-9, -9), NO);
            Due.is("lie of " + text, x.lie(), NO);
        }
    }

    private static void lies(Council x, String text, int want) {
        Due.write(x, text);
        Due.is("lie of " + text, x.lie(), want);
    }

    private static void lie() {
        Due.part("promise 18");
        Council x = new Council();
        lies(x, "a", 0);
        lies(x, "*", NONE);
        lies(x, ".a", NONE);
        lies(x, ".aa", 2);
        lies(x, "*a*a", NONE);
        lies(x, "*a*aa", 4);
        lies(x, "***aaa", NONE);
        lies(x, "***aaaa", 6);
        lies(x, "..........aa", NONE);
        lies(x, "bbbbbbbbbbbb", 0);
        lies(x, "*****aaaaaaa", 10);
        lies(x, ".....aaaaaba", NONE);
        lies(x, ".....aaaaaab", 10);
        x.set(0, 0, 1);
        lies(x, ".....aaaaaaa", 11);
        lies(x, ".*.*.aaaaaaa", 11);
        Due.saved(x, 2, 0, 999);
        lies(x, "aa", NONE);
        lies(x, "aaa", 2);
        lies(x, "cccccccccccc", NONE);
        x.set(0, 1, 0);
        x.set(0, 2, 0);
        x.set(0, 3, 5);
        lies(x, "aa", NONE);
        lies(x, "aaa", 2);
        Due.is("SAVED stays", x.told(10), 2);
        Due.is("signs stay", x.told(0), 3);
    }

    private static void floor() {
        Due.part("promise 19");
        Council x = new Council();
        for (int set = 0; set < 64; set++) {
            Due.is("floor of nothing saved", x.floor(set), 0);
        }
        Due.saved(x, 1, 0, 999, 0, 5);
        int[] alone = {1, 0, 999, 0, 5, 0};
        for (int set = 0; set < 64; set++) {
            boolean some = (set & 21) != 0;
            int want = !some ? 0 : Integer.bitCount(set) > 1 ? EVER : alone[Integer.numberOfTrailingZeros(set)];
            Due.is("floor(" + set + ")", x.floor(set), want);
        }
        x.set(4, 1, 0);
        x.set(4, 2, 0);
        x.set(4, 3, 9);
        Due.is("out and asleep", x.floor(16), 5);
        Due.is("out and asleep", x.floor(48), EVER);
        for (int set : new int[] {-1, 64, LOW, HIGH}) {
            Due.is("floor(" + set + ")", x.floor(set), OUTSIDE);
        }
    }

    private static void friends() {
        Due.part("promise 20");
        Council x = new Council();
        for (int one = 0; one < 6; one++) {
            Due.is("friends for no minutes", x.friends(one, 0), 1 << one);
            Due.is("friends that are none", x.friends(one, 1), NONE);
            Due.is("friends that are none", x.friends(one, 999), NONE);
        }
        Due.saved(x, 0, 0, 3, 0, 7, 0);
        Due.is("friends(2, 3)", x.friends(2, 3), 4);
        Due.is("friends(2, 4)", x.friends(2, 4), 5);
        Due.is("friends(4, 7)", x.friends(4, 7), 16);
        Due.is("friends(4, 8)", x.friends(4, 8), 17);
        Due.is("friends(0, 1)", x.friends(0, 1), 5);
        Due.is("friends(5, 999)", x.friends(5, 999), 36);
        x.set(0, 0, 1);
        Due.is("friends(0, 2)", x.friends(0, 2), 3);
        Due.is("friends(5, 2)", x.friends(5, 2), 33);
        x.set(0, 0, 999);
        Due.is("friends(0, 999)", x.friends(0, 999), 1);
        for (int one : new int[] {-1, 6, LOW, HIGH}) {
            Due.is("friends of " + one, x.friends(one, 0), UNKNOWN);
            Due.is("unknown before outside", x.friends(one, 1000), UNKNOWN);
        }
        for (int minutes : new int[] {-1, 1000, LOW, HIGH}) {
            Due.is("friends for " + minutes, x.friends(0, minutes), OUTSIDE);
        }
    }
}
