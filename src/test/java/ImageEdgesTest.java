/** Promises 21 to 23: each sentence that names a boundary case. */
public final class ImageEdgesTest {
    public static void main(String[] args) {
        images();
        imageOfAll();
        imageWithoutPad();
        restoreState();
        toldBounds();
        toldValues();
        Due.end("ImageEdgesTest");
    }

    private static void images() {
        Due.part("promise 21: an IMAGE (0, 1)");
        new Run("image {-1 2 LOW HIGH} = OUTSIDE", "restore {0 1} = STATE", "image 0 = 1", "image 1 = 1",
            "image 0 = 1");
        Due.part("promise 21: of a new object");
        new Run("image 1 = 1", "saved 9 9 9 9 9 9", "law 0 9", "law 1 9", "matter 0 1 0", "lend 0 5 9",
            "set 0 1 0", "set 5 2 0", "set 3 3 9", "restore 1 = 1", "told {10..15} = 0", "told {20..25} = 1",
            "told {30..35} = 1", "told {40..45} = 0", "told 1 = 0", "told 2 = 5", "told 3 = 2",
            "told 105 = 0");
        Due.part("promise 21: the later IMAGE stands in place of the earlier one");
        new Run("saved 1", "image 0 = 1", "image 1 = 1", "saved 2", "image 0 = 1", "saved 3", "restore 1 = 1",
            "told 10 = 1", "restore 0 = 1", "told 10 = 2", "image 1 = 1", "saved 4", "restore 1 = 1",
            "told 10 = 2");
    }

    private static void imageOfAll() {
        Due.part("promises 21 and 22: all is kept, to the last of each");
        new Run("saved 999 1 2 3 4 998", "set 0 1 0", "set 5 2 0", "set 5 3 99", "law 0 99", "law 1 0",
            "lend 0 1 99", "lend 5 4 98", "matter {0..5} 60 0", "matter 5 1 63", "matter 1 2 127",
            "image 0 = 1", "restore 0 = 1", "clear = 8", "matter 3 7 0", "matter 3 7 1", "saved 1 1 1 1 1 1",
            "set 0 1 1", "set 5 2 1", "set 5 3 0", "law 0 1", "law 1 1", "lend 0 1 1", "lend 5 4 1",
            "restore 0 = 1", "told 10 = 999", "told 15 = 998", "told 20 = 0", "told 35 = 0", "told 45 = 99",
            "told 2 = 99", "told 3 = 0", "told 101 = 99", "told 134 = 98", "told 1 = 8", "about 7 0 = 1",
            "about 7 1 = 2", "about 7 2 = 127", "about 0 0 = 0", "about 0 1 = 60", "about 1 0 = 1",
            "about 1 2 = 0", "matter 0 1 0 = FULL");
        Due.part("promise 22: no MATTERS, in place of 8");
        new Run("image 0 = 1", "matter {0..5} 1 0", "matter {0 1} 1 0", "restore 0 = 1", "told 1 = 0",
            "least -1 = 0", "matter 0 1 1 = OUTSIDE", "matter 0 1 0 = 0");
    }

    private static void imageWithoutPad() {
        Due.part("promise 21: all but the PAD");
        new Run("pad .1", "image 0 = 1", "told 0 = 2", "wipe = 2", "restore 0 = 1", "told 0 = 0",
            "pad " + ".9".repeat(20), "restore 0 = 1", "told 0 = 40", "sits 0 = 180", "say 46 = FULL",
            "image 1 = 1", "told 0 = 40", "restore 1 = 1", "sits 0 = 180");
    }

    private static void restoreState() {
        Due.part("promise 22: STATE, it was not kept");
        new Run("restore {0 1} = STATE", "image 1 = 1", "restore 0 = STATE", "restore 1 = 1",
            "restore 0 = STATE", "image 0 = 1", "restore {0 1} = 1");
        new Run("image 0 = 1", "restore 1 = STATE", "restore 0 = 1", "restore 1 = STATE",
            "restore {-1 2 LOW HIGH} = OUTSIDE");
        Due.part("promise 22: as it was when it was kept, however often");
        new Run("saved 5", "image 0 = 1", "set 0 0 6 = 5", "restore 0 = 1", "set 0 0 7 = 5", "restore 0 = 1",
            "restore 0 = 1", "set 0 0 8 = 5", "lend 0 1 9 = 0", "matter 0 1 0 = 0", "restore 0 = 1",
            "told 10 = 5", "told 101 = 0", "told 1 = 0");
    }

    private static void toldBounds() {
        Due.part("promise 23: 0 to 3, 10 to 15, 20 to 25, 30 to 35, 40 to 45, 100 to 135");
        new Run("told {-1 4 9 16 19 26 29 36 39 46 49 50 55 99 136 141 200 LOW HIGH} = OUTSIDE");
        new Run("told {-100 -64 -46 -10 -6 -2} = OUTSIDE", "told {5..8} = OUTSIDE",
            "told {17 18 27 28 37 38 47 48} = OUTSIDE");
        for (int from = 50; from < 250; from += 50) {
            new Run("told {" + Math.max(from, 136) + ".." + (from + 86) + "} = OUTSIDE");
        }
        new Run("told {46..99} = OUTSIDE");
    }

    private static void toldValues() {
        Due.part("promise 23: the first and the last of each");
        new Run("set 0 0 1", "set 5 0 999", "set 0 1 0", "set 5 2 0", "set 0 3 1", "set 5 3 99", "law 0 0",
            "law 1 99", "told 10 = 1", "told 15 = 999", "told 20 = 0", "told 25 = 1", "told 30 = 1",
            "told 35 = 0", "told 40 = 1", "told 45 = 99", "told 2 = 0", "told 3 = 99");
        Due.part("promise 23: signs 0 to 40, MATTERS 0 to 8");
        new Run("told 0 = 0", "say 33 = 1", "told 0 = 1", "pad " + ".9".repeat(20), "told 0 = 40",
            "say 46 = FULL", "told 0 = 40", "told 1 = 0", "matter {0..5} 1 0", "matter 0 1 0", "told 1 = 7",
            "matter 1 1 0", "told 1 = 8", "matter 1 1 0 = FULL", "told 1 = 8");
        Due.part("promise 23: what it has lent that, 0 of itself");
        new Run("lend {0..5} {0..5} 99", "told {100 107 114 121 128 135} = 0", "told {101..106} = 99",
            "told {108..113} = 99", "told {115..120} = 99", "told {122..127} = 99", "told {129..134} = 99");
        new Run("lend 0 1 7", "told 101 = 7", "told 106 = 0", "lend 5 4 8", "told 134 = 8", "told 129 = 0");
    }
}
