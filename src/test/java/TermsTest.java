/** 'What it is' and 'Terms': which refusal goes first, that it changes nothing, the last of 512 calls. */
public final class TermsTest {
    private static final String[] USED = {"saved 3 0 999 7 1 2", "set 1 1 0", "set 2 2 0", "set 3 3 99", "law 0 7",
        "law 1 9", "lend 0 1 5", "lend 4 2 99", "matter 0 2 0", "matter 5 60 1", "image 1", "set 0 0 4", "lend 0 1 6",
        "matter 3 1 3"};
    private static final String[] EIGHT = {"matter {0..3} 5 0", "matter {0..3} 60 0"};
    private static final String[] FIVE_HOLD = {"matter {0..4} 5 0"};

    public static void main(String[] args) {
        unknownFirst();
        unknownBeforeLater();
        outsideBeforeLater();
        noBeforeNone();
        refusedInUse();
        refusedFull();
        lastCall();
        callsToTheLast();
        Due.end("TermsTest");
    }

    private static Run run(String[] first, String... rows) {
        return new Run(first).asks(rows);
    }

    private static void unknownFirst() {
        Due.part("UNKNOWN before OUTSIDE");
        new Run("set {-1 6 LOW HIGH} {-1 4 LOW HIGH} 0 = UNKNOWN",
            "set {-1 6} {0..3} {-1 1000 LOW HIGH} = UNKNOWN");
        new Run("matter {-1 6 LOW HIGH} {-1 0 61 LOW HIGH} 0 = UNKNOWN",
            "matter {-1 6} 1 {-1 1 256 LOW HIGH} = UNKNOWN");
        new Run("about {-1 0 8 LOW HIGH} {-1 3 LOW HIGH} = UNKNOWN", "matter 0 1 0 = 0",
            "about {-1 1 8} {-1 3} = UNKNOWN");
        new Run("matter 0 1 0 = 0", "dealt {-1 21 LOW HIGH} {-2 6 LOW HIGH} = UNKNOWN");
        new Run("lend {-1 6 LOW HIGH} 0 {-1 100 LOW HIGH} = UNKNOWN",
            "lend 0 {-1 6 LOW HIGH} {-1 100} = UNKNOWN", "lend 0 0 {-1 100} = UNKNOWN",
            "lend 5 5 {-1 100} = UNKNOWN");
        new Run("friends {-1 6 LOW HIGH} {-1 1000 LOW HIGH} = UNKNOWN");
    }

    private static void unknownBeforeLater() {
        Due.part("UNKNOWN before FULL and NO");
        run(EIGHT, "matter {-1 6} 1 0 = UNKNOWN", "matter {-1 6} 1 255 = UNKNOWN",
            "matter {-1 6} {0 61} 256 = UNKNOWN");
        new Run("dealt {0 20} {-2 6} = UNKNOWN", "dealt {-1 21} {-2 6} = UNKNOWN");
        run(FIVE_HOLD, "dealt {0 20} {-2 6} = UNKNOWN", "dealt {-1 21} {-2 6} = UNKNOWN");
    }

    private static void outsideBeforeLater() {
        Due.part("OUTSIDE before STATE, FULL and NO");
        new Run("restore {-1 2 LOW HIGH} = OUTSIDE", "image 0 = 1", "restore {-1 2} = OUTSIDE");
        run(EIGHT, "matter {0 5} {-1 0 61 LOW HIGH} 0 = OUTSIDE",
            "matter {0 5} 1 {-1 256 LOW HIGH} = OUTSIDE");
        new Run("pad " + ".9".repeat(20), "say {32 127 LOW HIGH} = OUTSIDE");
        new Run("pad a", "sits {-1 3 9 16 26 36 LOW HIGH} = OUTSIDE");
        new Run("dealt {-1 21 LOW HIGH} {-1 0 5} = OUTSIDE");
        run(FIVE_HOLD, "dealt {-1 21 LOW HIGH} {-1 0 5} = OUTSIDE");
    }

    private static void noBeforeNone() {
        Due.part("what is refused is not NONE");
        new Run("filled {-2 0 1 HIGH} {-1 0 12} = NO", "filled -1 0 = NO", "lie = NO");
        run(FIVE_HOLD, "dealt 0 5 = NO", "dealt 20 5 = NO");
        new Run("dealt 0 {0..5} = NO", "dealt 20 {-1 0 5} = NO");
        new Run("matter 0 1 0 = 0", "dealt {-1 21} 5 = OUTSIDE", "dealt {0 20} 5 = NONE");
        new Run("friends 0 1 = NONE", "friends 0 1000 = OUTSIDE", "friends 6 1 = UNKNOWN");
        new Run("pad a", "sits 1 = NO", "sits 3 = OUTSIDE");
    }

    /** Each refusal of a council that holds something of everything: nothing of it changes. */
    private static void refusedInUse() {
        Due.part("refused calls change nothing");
        run(USED, "set 6 0 1 = UNKNOWN", "set 0 4 1 = OUTSIDE", "set 0 0 1000 = OUTSIDE",
            "set 1 1 2 = OUTSIDE", "set 2 2 -1 = OUTSIDE", "set 3 3 100 = OUTSIDE", "law 2 1 = OUTSIDE",
            "law {0 1} {-1 100} = OUTSIDE");
        run(USED, "pad .2d1", "say {32 127} = OUTSIDE", "fault {-1 2} = OUTSIDE", "sits {3 16 36} = OUTSIDE",
            "pad .2d", "sits 0 = NO", "sit = NO", "filled -1 0 = NO", "pad .2d0", "sit = NO",
            "filled 0 0 = NO", "lie = NO");
        run(USED, "pad b1", "sit = NO", "pad .9c1", "sit = NO", "pad a4a1", "sit = NO", "pad xaia.1a2",
            "sit = NO");
        run(USED, "matter 6 1 0 = UNKNOWN", "matter 0 0 0 = OUTSIDE", "matter 0 1 8 = OUTSIDE",
            "about 3 0 = UNKNOWN", "about 0 3 = OUTSIDE", "dealt 0 6 = UNKNOWN", "dealt 21 -1 = OUTSIDE",
            "matter {1 2} 1 0", "dealt 1 -1 = NO");
        run(USED, "lend 0 0 1 = UNKNOWN", "lend 0 6 1 = UNKNOWN", "lend 0 1 100 = OUTSIDE",
            "lend 4 2 -1 = OUTSIDE", "net {-1 6} = UNKNOWN", "floor {-1 64} = OUTSIDE",
            "friends 6 1 = UNKNOWN", "friends 0 {-1 1000} = OUTSIDE");
        run(USED, "image {-1 2} = OUTSIDE", "restore {-1 2} = OUTSIDE", "restore 0 = STATE",
            "told {4 16 136} = OUTSIDE");
    }

    private static void refusedFull() {
        Due.part("FULL changes nothing");
        run(USED, "matter {0..4} 2 0", "matter {0..5} {1 60} {0 7 255} = FULL", "told 1 = 8");
        run(USED, "pad " + ".1".repeat(19) + "a1", "say {33 46 49 97 126} = FULL", "told 0 = 40",
            "sits 10 = 1");
    }

    /** Each call of the face as the 512th one. */
    private static void lastCall() {
        Due.part("the 512th call");
        String[] rows = {"set 0 0 8 = 4", "law 0 8 = 7", "say 'a' = 3", "wipe = 2", "fault 0 = NONE", "sits 22 = 999",
            "sit = 2", "matter 4 5 7 = 3", "about 1 1 = 60", "clear = 3", "least -1 = 119", "dealt 20 5 = 20",
            "lend 4 2 0 = 99", "net 4 = 1099", "gifts = 2", "filled -1 0 = NO", "lie = NO", "floor 3 = EVER",
            "friends 0 5 = 3", "image 0 = 1", "restore 1 = 1", "told 10 = 4", "restore 0 = STATE", "set 6 0 0 = UNKNOWN"};
        for (String row : rows) {
            Run run = run(USED, "pad .2").toLastCall().asks(row);
            Due.is("calls left behind " + row, run.left(), 0);
        }
    }

    private static void callsToTheLast() {
        Due.part("512 calls of a kind");
        Council x = new Council();
        for (int n = 0; n < Council.MOST_CALLS; n++) {
            Due.is("say", x.say('.'), n < 40 ? n + 1 : SilentCouncil.FULL);
        }
        x = new Council();
        for (int n = 0; n < Council.MOST_CALLS; n++) {
            Due.is("image, restore", n % 2 == 0 ? x.image(n / 2 % 2) : x.restore(n / 2 % 2), 1);
        }
        x = new Council();
        for (int n = 0; n < Council.MOST_CALLS; n++) {
            Due.is("matter, clear", n % 9 < 8 ? x.matter(n % 6, 60, 0) : x.clear(), n % 9 < 8 ? n % 9 : 8);
        }
        x = new Council();
        for (int n = 0; n < Council.MOST_CALLS; n++) {
            Due.is("set", x.set(0, 0, n + 1), n);
        }
        x = new Council();
        for (int n = 0; n < Council.MOST_CALLS; n += 4) {
            Due.is("say", x.say('.'), 1);
            Due.is("say", x.say('9'), 2);
            Due.is("sit", x.sit(), 9);
            Due.is("told", x.told(10), Math.min(999, 9 * (n / 4 + 1)));
        }
    }
}
