/** Promises 9 to 13: each sentence that names a boundary case. */
public final class MatterEdgesTest {
    public static void main(String[] args) {
        matterBounds();
        matterBehind();
        matterFull();
        about();
        clear();
        leastPlaces();
        leastOfOne();
        leastOfAllInAndAwake();
        leastLongest();
        leastOfSeveral();
        leastOrder();
        dealtBounds();
        dealtHolders();
        dealtMinutes();
        dealtTies();
        Due.end("MatterEdgesTest");
    }

    private static void matterBounds() {
        Due.part("promise 9: by a ONE, 1 to 60 minutes");
        new Run("matter 0 1 0 = 0", "matter 5 60 0 = 1", "matter {-1 6 LOW HIGH} 1 0 = UNKNOWN",
            "matter {0 5} {-1 0 61 LOW HIGH} 0 = OUTSIDE", "told 1 = 2", "matter 0 60 0 = 2",
            "matter 5 1 0 = 3");
        Due.part("promise 9: its number, from 0 on");
        new Run("matter 3 2 0 = 0", "matter 3 2 0 = 1", "clear = 2", "matter 3 2 0 = 0");
    }

    private static void matterBehind() {
        Due.part("promise 9: behind bits of MATTERS that are there already");
        for (int count = 0; count < 8; count++) {
            Run run = new Run();
            for (int n = 0; n < count; n++) {
                run.asks("matter 0 1 0 = " + n);
            }
            int first = 1 << count;
            run.asks("matter 0 1 {-1 " + first + " " + (first + 1) + " 256 512 65536 LOW HIGH} = OUTSIDE");
            run.asks("told 1 = " + count, "matter 0 1 " + (first - 1) + " = " + count);
            run.asks("about " + count + " 2 = " + (first - 1));
        }
        new Run("matter {0..4} 1 0", "clear = 5", "matter 0 1 {1 16} = OUTSIDE", "matter 0 1 0 = 0",
            "matter 0 1 2 = OUTSIDE");
    }

    private static void matterFull() {
        Due.part("promise 9: 8 at most");
        new Run("matter {0..5} 1 0", "matter 0 1 63 = 6", "matter 5 60 127 = 7",
            "matter {0 5} {1 60} {0 128 255} = FULL", "told 1 = 8", "about 7 0 = 5", "about 7 1 = 60",
            "about 7 2 = 127", "least 8 = NONE", "clear = 8", "matter 1 2 0 = 0", "told 1 = 1");
    }

    private static void about() {
        Due.part("promise 10: there is no such MATTER");
        new Run("about {-1 0 1 7 8 LOW HIGH} {0 1 2} = UNKNOWN", "matter 5 60 0 = 0", "about 0 0 = 5",
            "about 0 1 = 60", "about 0 2 = 0", "about {-1 1 7 8} 0 = UNKNOWN");
        new Run("matter {0..5} 7 0", "matter {4 5} 8 63", "about 7 0 = 5", "about 7 1 = 8", "about 7 2 = 63",
            "about {-1 8 LOW HIGH} {0..2} = UNKNOWN", "clear = 8", "about {0..7} 0 = UNKNOWN");
        Due.part("promise 10: what 0 to 2");
        new Run("matter 5 60 0 = 0", "about 0 {-1 3 LOW HIGH} = OUTSIDE",
            "about 1 {-1 3 LOW HIGH} = UNKNOWN");
    }

    private static void clear() {
        Due.part("promise 11: how many there were, from none to 8");
        new Run("clear = 0", "matter 0 1 0 = 0", "clear = 1", "clear = 0", "matter {0..5} 1 0",
            "matter {0 1} 1 0", "clear = 8", "clear = 0", "told 1 = 0", "least -1 = 0", "least 0 = NONE",
            "dealt 0 -1 = NO");
        Due.part("promise 11: only MATTERS go");
        new Run("saved 7 8", "matter 0 9 0", "image 1", "lend 0 1 3", "pad a1", "clear = 1", "told 10 = 7",
            "told 101 = 3", "told 0 = 2", "restore 1 = 1", "told 1 = 1", "about 0 1 = 9");
    }

    private static void leastPlaces() {
        Due.part("promise 12: i = -1, the places of the ORDER, NONE");
        new Run("least -1 = 0", "least {-2 0 1 7 8 LOW HIGH} = NONE", "matter 0 1 0 = 0", "least -1 = 2",
            "least 0 = 0", "least {-2 1 7 8 LOW HIGH} = NONE", "matter 1 1 0 = 1", "least 1 = 1",
            "least 2 = NONE");
        new Run("matter {0..5} 1 0", "matter {0 1} 1 0", "least 7 = 7", "least {-2 8 9 LOW HIGH} = NONE",
            "clear = 8", "least -1 = 0", "least {0 7} = NONE");
    }

    private static void leastOfOne() {
        Due.part("promise 12: must have SAVED all its minutes when it begins");
        new Run("matter 0 1 0 = 0", "least -1 = 2", "set 0 0 1", "least -1 = 1", "set 0 0 999",
            "least -1 = 1");
        new Run("matter 5 60 0 = 0", "least -1 = 120", "set 5 0 1", "least -1 = 119", "set 5 0 59",
            "least -1 = 61", "set 5 0 60", "least -1 = 60", "set 5 0 61", "least -1 = 60", "set 4 0 999",
            "least -1 = 60");
        Due.part("promise 12: all IN and AWAKE, nothing half free");
        new Run("matter 0 9 0 = 0", "set 0 0 4", "least -1 = 14", "set 0 1 0", "least -1 = 14", "set 0 2 0",
            "least -1 = 14", "set 0 3 99", "least -1 = 14", "told 10 = 4");
    }

    private static void leastOfAllInAndAwake() {
        Due.part("promise 12: all ONES IN and AWAKE, nothing half free, whatever they are now");
        new Run("saved 5", "matter 0 5 0 = 0", "matter 1 5 1 = 1", "set {0 1} {1 2} 0", "least -1 = 10",
            "set 1 1 1", "least -1 = 10", "set 0 1 1", "set 1 1 0", "set {0 1} 3 99", "least -1 = 10", "saved 4",
            "least -1 = 11", "told {40 41} = 99", "told 21 = 0");
        for (int one = 0; one < 6; one++) {
            new Run("set " + one + " 0 7", "matter " + one + " 9 0 = 0", "least -1 = 11", "set " + one + " 1 0",
                "least -1 = 11", "set " + one + " 2 0", "least -1 = 11", "set " + one + " 1 1", "least -1 = 11",
                "set " + one + " 3 99", "least -1 = 11", "set " + one + " 3 1", "least -1 = 11");
        }
        Due.part("promise 13: likewise");
        new Run("matter 0 4 0 = 0", "matter 5 3 1 = 1", "set {0 5} {1 2} 0", "set {0 5} 3 99", "dealt 4 -1 = 7",
            "dealt 4 0 = 4", "dealt 4 5 = 0", "dealt 3 -1 = 8", "dealt 3 0 = 3", "told {20 35} = 0");
    }

    private static void leastLongest() {
        Due.part("promise 12: eight of 60 minutes");
        new Run("matter 0 60 {0 0 0 0 0 0 0 0}", "told 1 = 8", "least -1 = 960", "set 0 0 480",
            "least -1 = 480", "set 0 0 479", "least -1 = 481", "set 0 0 999", "least -1 = 480", "set 0 0 1",
            "least -1 = 959", "least 0 = 0", "least 7 = 7");
        new Run("matter {0..5} 60 0", "matter {0 1} 60 0", "least -1 = 540", "saved 60", "least -1 = 480",
            "saved 59", "least -1 = 481");
    }

    private static void leastOfSeveral() {
        Due.part("promise 12: silence is saved by all but who speaks");
        new Run("matter 0 5 0 = 0", "matter 1 5 1 = 1", "least -1 = 15", "saved 5", "least -1 = 10",
            "saved 4", "least -1 = 11", "saved 5", "matter 1 1 2 = 2", "least -1 = 12", "set 1 0 1",
            "least -1 = 11");
        new Run("matter 0 5 0 = 0", "matter 1 6 1 = 1", "saved 5", "least -1 = 12", "set 1 0 1",
            "least -1 = 11");
        new Run("matter 0 5 0 = 0", "matter 1 5 0 = 1", "matter 0 5 3 = 2", "least -1 = 20", "saved 4",
            "least -1 = 16", "saved 5", "least -1 = 15", "saved 999", "least -1 = 15");
    }

    private static void leastOrder() {
        Due.part("promise 12: the first by numbers that ends then");
        new Run("saved 999 999 999 999 999 999", "matter {5 4 3 2 1 0} 9 0", "matter {0 5} 9 0",
            "least -1 = 72", "least 0 = 0", "least 1 = 1", "least 6 = 6", "least 7 = 7");
        new Run("matter {0 1} 5 0", "least -1 = 15", "least 0 = 0", "least 1 = 1", "set 1 0 5",
            "least -1 = 10", "least 0 = 1", "least 1 = 0", "set 0 0 5", "least -1 = 10", "least 0 = 0",
            "least 1 = 1");
        new Run("matter {0 1 2} 5 0", "set 2 0 5", "least -1 = 15", "least 0 = 2", "least 1 = 0",
            "least 2 = 1");
        Due.part("promise 12: not the first that can begin, if no order that begins so ends then");
        new Run("set 0 0 5", "matter 0 3 0 = 0", "matter 0 5 0 = 1", "matter 1 3 2 = 2", "least -1 = 11",
            "least 0 = 1", "least 1 = 2", "least 2 = 0", "set 0 0 8", "least -1 = 11", "least 0 = 0",
            "least 1 = 1", "least 2 = 2");
        new Run("set 0 0 5", "matter 0 3 0 = 0", "matter 0 5 0 = 1", "matter 1 3 2 = 2",
            "matter 2 1 {2 2 2 2 2}", "told 1 = 8", "least -1 = 16", "least 0 = 1", "least 1 = 2", "least 2 = 0",
            "least 3 = 3", "least 7 = 7", "least 8 = NONE");
        Due.part("promise 12: behind all of these, not one of them");
        new Run("matter 0 9 0 = 0", "matter 1 1 1 = 1", "set 1 0 1", "least -1 = 19", "least 0 = 0",
            "least 1 = 1", "clear = 2", "matter 0 9 0 = 0", "matter 1 1 0 = 1", "matter 2 1 3 = 2",
            "least -1 = 19", "least 0 = 1", "least 1 = 0", "least 2 = 2");
    }

    private static void dealtBounds() {
        Due.part("promise 13: D 0 to 20");
        new Run("matter 3 60 0 = 0", "dealt 0 -1 = 120", "dealt 0 3 = 0", "dealt 20 -1 = 100",
            "dealt 20 3 = 20", "dealt {-1 21 LOW HIGH} {-1 0 3} = OUTSIDE");
        Due.part("promise 13: a ONE or -1");
        new Run("matter 3 60 0 = 0", "dealt 5 {-2 6 LOW HIGH} = UNKNOWN", "dealt 5 {0 1 2 4 5} = NONE",
            "dealt 5 -1 = 115");
        new Run("matter {0 5} 1 0", "dealt 1 0 = 1", "dealt 1 5 = 0", "dealt 1 {1..4} = NONE");
    }

    private static void dealtHolders() {
        Due.part("promise 13: NO, more than 4 have MATTERS, or none");
        new Run("dealt {0 20} {-1 0 5} = NO", "matter 2 1 0 = 0", "dealt 0 -1 = 2", "matter {3 4 5} 1 0",
            "dealt 0 -1 = 5", "dealt 0 {2..5} = 0", "dealt 0 {0 1} = NONE", "matter 3 1 0 = 4",
            "dealt 20 -1 = 5", "matter 1 1 0 = 5", "dealt 0 {-1..5} = NO", "matter 0 1 0 = 6",
            "dealt 20 {-1..5} = NO", "clear = 7", "dealt 0 -1 = NO");
        Due.part("promise 13: 4 have eight MATTERS of 60 minutes");
        new Run("matter {0..3} 60 0", "matter {0..3} 60 0", "told 1 = 8", "dealt 0 -1 = 540",
            "dealt 20 -1 = 520", "dealt 20 0 = 20", "dealt 20 {1..3} = 0", "dealt 20 {4 5} = NONE");
    }

    private static void dealtMinutes() {
        Due.part("promise 13: in place of what they have SAVED");
        new Run("saved 999 999", "matter 0 9 0 = 0", "matter 1 9 1 = 1", "least -1 = 18", "dealt 0 -1 = 27",
            "dealt 8 -1 = 19", "dealt 9 -1 = 18", "dealt 9 0 = 9", "dealt 9 1 = 0", "told {10 11} = 999");
        Due.part("promise 13: all of D is dealt");
        new Run("matter 4 3 0 = 0", "dealt 2 -1 = 4", "dealt 3 -1 = 3", "dealt 3 4 = 3", "dealt 20 -1 = 3",
            "dealt 20 4 = 20");
    }

    private static void dealtTies() {
        Due.part("promise 13: of several the one that gives ONE 0 (of these) most, then the next one");
        new Run("matter {1 3 5} 1 0", "dealt 0 -1 = 4", "dealt 1 -1 = 3", "dealt 1 1 = 1",
            "dealt 1 {3 5} = 0", "dealt 20 1 = 20", "dealt 20 {3 5} = 0");
        new Run("matter 5 5 0 = 0", "matter 3 1 1 = 1", "matter 1 1 1 = 2", "dealt 4 -1 = 8", "dealt 4 5 = 4",
            "dealt 4 {1 3} = 0", "dealt 5 -1 = 7", "dealt 5 5 = 5", "dealt 6 1 = 1", "dealt 6 3 = 0",
            "dealt 6 5 = 5");
        new Run("matter 2 4 0 = 0", "matter 1 7 1 = 1", "matter 0 1 1 = 2", "dealt 4 -1 = 13",
            "dealt 4 0 = 0", "dealt 4 1 = 1", "dealt 4 2 = 3", "dealt 5 -1 = 13", "dealt 5 {0 1} = 1",
            "dealt 5 2 = 3", "dealt 6 -1 = 12", "dealt 6 0 = 0", "dealt 6 1 = 2", "dealt 6 2 = 4",
            "dealt 7 -1 = 12", "dealt 7 0 = 1");
    }
}
