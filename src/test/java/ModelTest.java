import java.util.Random;

/** Promises 1 to 23: runs of calls, each answer beside the model's; then the searches on their own. */
public final class ModelTest {
    /** What a run leaves of its 512 calls, to tell all behind it; no step of it asks more than five. */
    private static final int LEFT_BEHIND = 142, MOST_OF_STEP = 5;
    private static final String[] KINDS = {"sittings", "matters", "lent", "books", "all"};

    public static void main(String[] args) {
        for (int seed = 0; seed < 900; seed++) {
            run(seed, seed % 5);
        }
        for (int seed = 0; seed < 60; seed++) {
            manyMatters(new Random(seed));
        }
        for (int seed = 0; seed < 40; seed++) {
            deals(new Random(seed));
        }
        for (int seed = 0; seed < 300; seed++) {
            pauses(new Random(seed));
        }
        Due.end("ModelTest");
    }

    private static void run(int seed, int kind) {
        Due.part("run " + seed + " of " + KINDS[kind]);
        Random random = new Random(seed);
        Council x = new Council();
        Model y = new Model();
        while (x.left() >= LEFT_BEHIND + MOST_OF_STEP) {
            int part = random.nextInt(10);
            if (part == 0) {
                common(x, y, random);
            } else {
                switch (kind < 4 ? kind : random.nextInt(4)) {
                    case 0:
                        sitting(x, y, random);
                        break;
                    case 1:
                        matters(x, y, random);
                        break;
                    case 2:
                        lent(x, y, random);
                        break;
                    default:
                        books(x, y, random);
                        break;
                }
            }
        }
        for (int what = -2; what < 140; what++) {
            Due.is("told " + what, x.told(what), y.told(what));
        }
    }

    /** Mostly from low to high, now and then beside it or far off. */
    private static int about(Random random, int low, int high) {
        switch (random.nextInt(24)) {
            case 0:
                return low - 1;
            case 1:
                return high + 1;
            case 2:
                return low;
            case 3:
                return high;
            case 4:
                return random.nextInt(4) > 0 ? low : random.nextInt();
            default:
                return low + random.nextInt(high - low + 1);
        }
    }

    private static void common(Council x, Model y, Random random) {
        int n = about(random, 0, 1);
        int one = about(random, 0, 5);
        int what = about(random, 0, 3);
        int v = about(random, 0, what == 1 || what == 2 ? 1 : what == 3 ? 99 : random.nextInt(4) == 0 ? 999 : 9);
        switch (random.nextInt(6)) {
            case 0:
                Due.is("image " + n, x.image(n), y.image(n));
                break;
            case 1:
                Due.is("restore " + n, x.restore(n), y.restore(n));
                break;
            case 2:
                Due.is("law " + n + " " + v, x.law(n, v), y.law(n, v));
                break;
            case 3:
                what = about(random, 0, 140);
                Due.is("told " + what, x.told(what), y.told(what));
                break;
            default:
                Due.is("set " + one + " " + what + " " + v, x.set(one, what, v), y.set(one, what, v));
                break;
        }
    }

    private static void text(Council x, Model y, String text) {
        for (int i = 0; i < text.length(); i++) {
            Due.is("say " + text.charAt(i), x.say(text.charAt(i)), y.say(text.charAt(i)));
        }
    }

    private static String part(Random random) {
        String ones = "abcdef";
        String one = "" + ones.charAt(random.nextInt(6));
        int kind = random.nextInt(20);
        if (kind < 6) {
            return one + (1 + random.nextInt(kind < 4 ? 3 : 9));
        }
        if (kind < 12) {
            return "." + (1 + random.nextInt(9));
        }
        if (kind < 15) {
            return "?" + one + ones.charAt(random.nextInt(6));
        }
        if (kind < 19) {
            return "zyxik".charAt(random.nextInt(5)) + one;
        }
        return "" + (char) (33 + random.nextInt(94));
    }

    private static void sitting(Council x, Model y, Random random) {
        int what = about(random, 0, 40);
        switch (random.nextInt(16)) {
            case 0:
                Due.is("wipe", x.wipe(), y.wipe());
                break;
            case 1:
            case 2:
                Due.is("sit", x.sit(), y.sit());
                break;
            case 3:
                Due.is("fault", x.fault(0), y.fault(0));
                break;
            case 4:
                text(x, y, "." + (1 + random.nextInt(9)));
                break;
            case 5:
            case 6:
            case 7:
            case 8:
            case 9:
                Due.is("sits " + what, x.sits(what), y.sits(what));
                break;
            default:
                text(x, y, part(random));
                break;
        }
    }

    private static void matters(Council x, Model y, Random random) {
        int count = y.told(1);
        int one = about(random, 0, 5);
        switch (random.nextInt(10)) {
            case 0:
                if (count > 4 || random.nextInt(8) == 0) {
                    Due.is("clear", x.clear(), y.clear());
                }
                break;
            case 1:
            case 2:
                if (count < 5) {
                    add(x, y, random, random.nextInt(3) == 0 ? one : one % 3, random.nextInt(4) > 0 ? 9 : 60);
                }
                break;
            case 3:
                int what = about(random, 0, 2);
                int matter = about(random, 0, 7);
                Due.is("about " + matter + " " + what, x.about(matter, what), y.about(matter, what));
                break;
            case 4:
            case 5:
                int v = random.nextInt(12);
                Due.is("set", x.set(one, 0, v), y.set(one, 0, v));
                break;
            case 6:
                int to = about(random, -1, 5);
                int minutes = about(random, 0, count < 4 ? 20 : 5);
                if (count < 5 && (count < 4 || minutes < 6)) {
                    Due.is("dealt " + minutes + " " + to, x.dealt(minutes, to), y.dealt(minutes, to));
                }
                break;
            default:
                int i = about(random, -1, count);
                Due.is("least " + i, x.least(i), y.least(i));
                break;
        }
    }

    private static void add(Council x, Model y, Random random, int one, int most) {
        int minutes = about(random, 1, most);
        int behind = 0;
        for (int n = 0; n < y.told(1); n++) {
            behind |= random.nextInt(5) == 0 ? 1 << n : 0;
        }
        behind = random.nextInt(20) == 0 ? about(random, 0, 255) : behind;
        Due.is("matter " + one + " " + minutes + " " + behind, x.matter(one, minutes, behind),
            y.matter(one, minutes, behind));
    }

    private static void lent(Council x, Model y, Random random) {
        int one = about(random, 0, 5);
        int to = about(random, 0, 5);
        int v = about(random, 0, random.nextInt(3) == 0 ? 99 : 3);
        switch (random.nextInt(4)) {
            case 0:
                Due.is("net " + one, x.net(one), y.net(one));
                break;
            case 1:
                Due.is("gifts", x.gifts(), y.gifts());
                break;
            default:
                v = random.nextInt(3) == 0 ? 0 : v;
                Due.is("lend " + one + " " + to + " " + v, x.lend(one, to, v), y.lend(one, to, v));
                break;
        }
    }

    private static void books(Council x, Model y, Random random) {
        int i = random.nextInt(3) == 0 ? -1 : about(random, 0, random.nextBoolean() ? 20 : 400);
        int k = about(random, 0, 11);
        int one = about(random, 0, 5);
        int minutes = about(random, 0, random.nextBoolean() ? 999 : 9);
        int v = about(random, 0, 2);
        int set = about(random, 0, 63);
        boolean many = y.fault(1) == -6 && y.filled(-1, 0) > 400 && random.nextInt(8) > 0;
        switch (random.nextInt(14)) {
            case 0:
                Due.is("wipe", x.wipe(), y.wipe());
                break;
            case 1:
                Due.is("fault", x.fault(1), y.fault(1));
                break;
            case 2:
            case 3:
                Due.is("floor " + set, x.floor(set), y.floor(set));
                break;
            case 4:
                Due.is("friends " + one + " " + minutes, x.friends(one, minutes), y.friends(one, minutes));
                break;
            case 5:
                Due.is("set " + one + " " + v, x.set(one, 0, v), y.set(one, 0, v));
                break;
            case 6:
            case 7:
                if (!many) {
                    Due.is("lie", x.lie(), y.lie());
                }
                break;
            case 8:
            case 9:
                if (!many) {
                    Due.is("filled " + i + " " + k, x.filled(i, k), y.filled(i, k));
                }
                break;
            default:
                int sign = "abcabcabcabcabcdefdefdef......****1!".charAt(random.nextInt(36));
                Due.is("say " + sign, x.say(sign), y.say(sign));
                break;
        }
    }

    /** Up to eight matters: least and order. */
    private static void manyMatters(Random random) {
        Due.part("many matters");
        Council x = new Council();
        Model y = new Model();
        int most = 1 + random.nextInt(20);
        int count = 6 + random.nextInt(3);
        while (y.told(1) < count) {
            add(x, y, random, random.nextInt(6), most);
        }
        for (int one = 0; one < 6; one++) {
            int v = random.nextInt(most + 1);
            Due.is("set", x.set(one, 0, v), y.set(one, 0, v));
        }
        int[] lookedAt = {-1, 0, 1, 2, count - 1};
        for (int i : lookedAt) {
            Due.is("least " + i, x.least(i), y.least(i));
        }
    }

    /** Up to eight matters of four: each deal is tried by least, which the model vouches for. */
    private static void deals(Random random) {
        Due.part("deals");
        Council x = new Council();
        int most = 1 + random.nextInt(30);
        int[] ones = {random.nextInt(2), 2, 3, 4 + random.nextInt(2)};
        int[][] matters = new int[8][];
        for (int n = 0; n < 8; n++) {
            int behind = random.nextInt(3) == 0 ? random.nextInt(1 << n) & random.nextInt(1 << n) : 0;
            matters[n] = new int[] {ones[random.nextInt(4)], 1 + random.nextInt(most), behind};
            x.matter(matters[n][0], matters[n][1], matters[n][2]);
        }
        int minutes = random.nextInt(21);
        int[] best = {Integer.MAX_VALUE, 0, 0, 0, 0};
        boolean[] has = new boolean[4];
        for (int n = 0; n < 4; n++) {
            has[n] = x.dealt(minutes, ones[n]) != SilentCouncil.NONE;
        }
        for (int a = has[0] ? minutes : 0; a >= 0; a--) {
            for (int b = has[1] ? minutes - a : 0; b >= 0; b--) {
                for (int c = has[2] ? minutes - a - b : 0; c >= 0; c--) {
                    int[] deal = {a, b, c, minutes - a - b - c};
                    if (has[3] || deal[3] == 0) {
                        tryDeal(matters, ones, deal, best);
                    }
                }
            }
        }
        Due.is("dealt -1", x.dealt(minutes, -1), best[0]);
        for (int n = 0; n < 4; n++) {
            Due.is("dealt " + ones[n], x.dealt(minutes, ones[n]), has[n] ? best[n + 1] : SilentCouncil.NONE);
        }
    }

    private static void tryDeal(int[][] matters, int[] ones, int[] deal, int[] best) {
        Council other = new Council();
        for (int[] matter : matters) {
            other.matter(matter[0], matter[1], matter[2]);
        }
        for (int n = 0; n < 4; n++) {
            other.set(ones[n], 0, deal[n]);
        }
        int least = other.least(-1);
        if (least < best[0]) {
            best[0] = least;
            System.arraycopy(deal, 0, best, 1, 4);
        }
    }

    /** Pauses wherever they may be, of whatever length: no sitting of matters ends sooner. */
    private static void pauses(Random random) {
        Due.part("pauses");
        Council x = new Council();
        int count = 1 + random.nextInt(5);
        int[] saved = new int[6];
        int[][] matters = new int[count][];
        for (int n = 0; n < count; n++) {
            int behind = random.nextInt(3) == 0 ? random.nextInt(1 << n) : 0;
            matters[n] = new int[] {random.nextInt(3), 1 + random.nextInt(6), behind};
            x.matter(matters[n][0], matters[n][1], matters[n][2]);
        }
        for (int one = 0; one < 3; one++) {
            saved[one] = random.nextInt(7);
            x.set(one, 0, saved[one]);
        }
        int most = 200;
        boolean[][] reached = new boolean[most][1 << count];
        reached[0][0] = true;
        for (int minute = 0; minute < most; minute++) {
            if (reached[minute][(1 << count) - 1]) {
                Due.is("least", x.least(-1), minute);
                return;
            }
            for (int said = 0; said < 1 << count; said++) {
                if (reached[minute][said]) {
                    goOn(matters, saved, reached, minute, said);
                }
            }
        }
        Due.holds("some sitting ends", false);
    }

    private static void goOn(int[][] matters, int[] saved, boolean[][] reached, int minute, int said) {
        if (minute + 1 < reached.length) {
            reached[minute + 1][said] = true;
        }
        for (int n = 0; n < matters.length; n++) {
            int one = matters[n][0];
            int minutes = matters[n][1];
            int has = saved[one] + minute;
            for (int m = 0; m < matters.length; m++) {
                has -= (said >> m & 1) == 1 && matters[m][0] == one ? 2 * matters[m][1] : 0;
            }
            boolean isNext = (said >> n & 1) == 0 && (matters[n][2] & ~said) == 0;
            if (isNext && has >= minutes && minute + minutes < reached.length) {
                reached[minute + minutes][said | 1 << n] = true;
            }
        }
    }
}
