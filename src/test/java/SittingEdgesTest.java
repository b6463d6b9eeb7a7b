/** Promises 1 to 8: each sentence that names a boundary case. */
public final class SittingEdgesTest {
    private static final String FULL_PAD = ".9".repeat(20);

    public static void main(String[] args) {
        newObject();
        set();
        law();
        say();
        wipe();
        faultOfParts();
        faultOfFullPads();
        faultOfBooks();
        sitsWhat();
        sitsNothing();
        sitsLongest();
        sitsAtMost();
        sitsLastMinuteSaved();
        sitsDue();
        sitsLongAnswer();
        sitsAsked();
        sitsOutOrAsleep();
        sitsNoTime();
        sitsCough();
        sit();
        sitWithout();
        Due.end("SittingEdgesTest");
    }

    private static void newObject() {
        Due.part("promise 1: nobody has SAVED anything, IN, AWAKE, DUE 0, COUGH 5, ASKED 2");
        new Run("told {10..15} = 0", "told {20..25} = 1", "told {30..35} = 1", "told {40..45} = 0",
            "told {100..135} = 0");
        new Run("told {0 1} = 0", "told 2 = 5", "told 3 = 2", "wipe = 0", "clear = 0", "net {0..5} = 1000",
            "gifts = 0");
        new Run("fault 0 = NONE", "fault 1 = 0", "sits {0 2} = 0", "sits 1 = NONE", "least -1 = 0",
            "least 0 = NONE", "filled -1 0 = NO", "lie = NO", "dealt 0 -1 = NO", "restore {0 1} = STATE",
            "about 0 0 = UNKNOWN");
        new Run("floor {0..63} = 0");
        new Run("friends 0 0 = 1", "friends 5 0 = 32", "friends {0..5} {1 999} = NONE");
    }

    private static void set() {
        Due.part("promise 2: ONES 0 to 5");
        new Run("set {0..5} 0 1 = 0", "set {-1 6 7 LOW HIGH} {0..3} 1 = UNKNOWN", "told {10..15} = 1");
        Due.part("promise 2: SAVED 0 to 999");
        new Run("set {0..5} 0 999 = 0", "set {0..5} 0 0 = 999", "set 0 0 998 = 0", "set 0 0 1 = 998");
        new Run("set 4 0 9", "set 4 0 {-1 1000 LOW HIGH} = OUTSIDE", "told 14 = 9");
        Due.part("promise 2: IN and AWAKE are 1 or 0");
        new Run("set {0..5} {1 2} 1 = 1", "set {0..5} {1 2} 0 = 1", "set {0..5} {1 2} 0 = 0",
            "told {20..25} = 0", "told {30..35} = 0", "set {0 5} {1 2} {-1 2 LOW HIGH} = OUTSIDE",
            "set {0..5} {1 2} 1 = 0");
        Due.part("promise 2: DUE 0 to 99");
        new Run("set {0..5} 3 99 = 0", "set {0..5} 3 98 = 99", "set {0..5} 3 0 = 98",
            "set 0 3 {-1 100 LOW HIGH} = OUTSIDE");
        Due.part("promise 2: what 0 to 3");
        new Run("set {0 5} {-1 4 LOW HIGH} {0 1} = OUTSIDE");
        Due.part("promise 2: what it was, though it stays so");
        new Run("set 2 0 7 = 0", "set 2 0 7 = 7", "set 2 3 7 = 0", "set 2 3 7 = 7", "set 2 0 1000 = OUTSIDE",
            "set 2 0 0 = 7");
    }

    private static void law() {
        Due.part("promise 3: COUGH and ASKED 0 to 99");
        new Run("law 0 0 = 5", "law 0 99 = 0", "law 0 98 = 99", "law 1 0 = 2", "law 1 99 = 0",
            "law 1 98 = 99");
        new Run("law {0 1} {-1 100 LOW HIGH} = OUTSIDE", "told 2 = 5", "told 3 = 2");
        Due.part("promise 3: which 0 and 1");
        new Run("law {-1 2 LOW HIGH} {0 1 99} = OUTSIDE");
        new Run("law 0 1 = 5", "law 0 1 = 1", "told 3 = 2", "law 1 1 = 2", "law 1 1 = 1", "told 2 = 1");
    }

    private static void say() {
        Due.part("promise 4: codes 33 to 126");
        new Run("say 33 = 1", "say 126 = 2", "say {32 127 31 128 0 -1 -97 353 65633 LOW HIGH} = OUTSIDE",
            "say 34 = 3", "say 125 = 4");
        Due.part("promise 4: 40 signs at most");
        new Run("pad " + FULL_PAD.substring(1), "told 0 = 39", "say 57 = 40", "say {33 57 126} = FULL",
            "told 0 = 40", "wipe = 40", "say 57 = 1");
    }

    private static void wipe() {
        Due.part("promise 5: how many there were, from none to 40");
        new Run("wipe = 0", "say 33 = 1", "wipe = 1", "wipe = 0", "pad " + FULL_PAD, "wipe = 40", "wipe = 0");
        Due.part("promise 5: only signs go");
        new Run("saved 7", "law 0 9", "matter 0 1 0", "lend 0 1 3", "image 0", "pad a1", "wipe = 2",
            "told 10 = 7", "told 2 = 9", "told 1 = 1", "told 101 = 3", "restore 0 = 1", "restore 1 = STATE");
    }

    private static void fault(int how, String text, String want) {
        new Run("pad " + text, "fault " + how + " = " + want);
    }

    private static void faultOfParts() {
        Due.part("promise 6: how 0 and 1");
        new Run("fault {-1 2 LOW HIGH} = OUTSIDE", "fault 0 = NONE", "fault 1 = 0");
        Due.part("promise 6: a to f, and no other sign, with a digit 1 to 9");
        for (char head : "abcdef.".toCharArray()) {
            for (char sign = '!'; sign <= '~'; sign++) {
                fault(0, "" + head + sign, "123456789".indexOf(sign) < 0 ? "1" : "NONE");
            }
            fault(0, "" + head, "1");
        }
        Due.part("promise 6: z, y, x, i, k and a ONE");
        for (char head : "zyxik".toCharArray()) {
            for (char sign = '!'; sign <= '~'; sign++) {
                fault(0, "" + head + sign, "abcdef".indexOf(sign) < 0 ? "1" : "NONE");
            }
            fault(0, "" + head, "1");
        }
        Due.part("promise 6: ? and two ONES, who is asked is not who asks");
        for (char asker = '!'; asker <= '~'; asker++) {
            boolean isOne = "abcdef".indexOf(asker) >= 0;
            fault(0, "?" + asker, isOne ? "2" : "1");
            for (char asked = '!'; asked <= '~' && isOne; asked++) {
                fault(0, "?" + asker + asked, "abcdef".indexOf(asked) < 0 || asked == asker ? "2" : "NONE");
            }
        }
        fault(0, "?", "1");
        Due.part("promise 6: the first sign that can not stand there");
        for (char head = '!'; head <= '~'; head++) {
            fault(0, "" + head, "abcdef.zyxik?".indexOf(head) < 0 ? "0" : "1");
            fault(0, "a1" + head, "abcdef.zyxik?".indexOf(head) < 0 ? "2" : "3");
        }
        fault(0, "a1a0", "3");
        fault(0, "a0a0", "1");
        fault(0, "?aa?", "2");
        fault(0, "ga", "0");
    }

    private static void faultOfFullPads() {
        Due.part("promise 6: the number of signs, if more must come; 40 signs at most");
        fault(0, FULL_PAD, "NONE");
        fault(0, "?ab" + ".9".repeat(18), "NONE");
        fault(0, "?ab" + ".9".repeat(18) + ".", "40");
        fault(0, "?ab?ba" + ".9".repeat(17), "NONE");
        fault(0, ".9".repeat(19) + "?a", "40");
        fault(0, ".9".repeat(19) + "zz", "39");
        fault(0, "?ab".repeat(13), "NONE");
        fault(0, "?ab".repeat(13) + "?", "40");
        fault(0, "?ab".repeat(13) + "1", "39");
        fault(0, "9" + ".9".repeat(19) + ".", "0");
        Due.part("promise 6: no signs are a SITTING of no minutes");
        new Run("fault 0 = NONE", "sits 0 = 0", "sit = 0", "pad a", "fault 0 = 1", "wipe = 1",
            "fault 0 = NONE");
    }

    private static void faultOfBooks() {
        Due.part("promise 6: a BOOK is 1 to 12 signs");
        fault(1, "", "0");
        for (int signs = 1; signs <= 40; signs++) {
            fault(1, ".".repeat(signs), signs <= 12 ? "NONE" : "12");
        }
        Due.part("promise 6: a to f, ., *, and no other sign");
        for (char sign = '!'; sign <= '~'; sign++) {
            boolean stands = "abcdef.*".indexOf(sign) >= 0;
            fault(1, "" + sign, stands ? "NONE" : "0");
            fault(1, "...........".concat("" + sign), stands ? "NONE" : "11");
            fault(1, "............".concat("" + sign), "12");
        }
        Due.part("promise 6: 5 holes at most");
        fault(1, "*****", "NONE");
        fault(1, "*****a", "NONE");
        fault(1, "******", "5");
        fault(1, "a*b*c*d*e*ff", "NONE");
        fault(1, "a*b*c*d*e*f*", "11");
        fault(1, "*****.......*", "12");
        fault(1, "******z", "5");
        fault(1, "*****z*", "5");
        fault(1, "z******", "0");
    }

    private static void sitsWhat() {
        Due.part("promise 7: what 0 to 2, 10, 20, 30 and the ONE");
        new Run("sits {-1 3 9 16 19 26 29 36 39 40 45 -10 -6 LOW HIGH} = OUTSIDE");
        new Run("pad .1a1b3", "sits 0 = 5", "sits 1 = 4", "sits 2 = 1", "sits 10 = 1", "sits 11 = 3",
            "sits {12..15} = 0", "sits 20 = 3", "sits 21 = 0", "sits {22..25} = 5", "sits {30..35} = 0");
        Due.part("promise 7: NO, there is a FAULT");
        new Run("pad a", "sits {0..2} = NO", "sits {10..15} = NO", "sits {20..25} = NO",
            "sits {30..35} = NO");
        new Run("pad a0", "sits 0 = NO", "pad ?aa", "sits 1 = NO", "pad .1*", "sits 2 = NO", "pad *",
            "sits 25 = NO");
    }

    private static void sitsNothing() {
        Due.part("promise 7: a SITTING of no minutes");
        new Run("saved 1 2 3 4 5 999", "set 5 3 99", "sits 0 = 0", "sits 1 = NONE", "sits 2 = 0",
            "sits {10..15} = 0", "sits 20 = 1", "sits 21 = 2", "sits 24 = 5", "sits 25 = 999", "sits 30 = 0",
            "sits 35 = 99");
    }

    private static void sitsLongest() {
        Due.part("promise 7: 180 minutes, the first WITHOUT from 0 on");
        new Run("pad " + FULL_PAD, "sits 0 = 180", "sits 1 = NONE", "sits 2 = 0", "sits {20..25} = 180");
        new Run("pad " + "f9".repeat(20), "sits 0 = 180", "sits 1 = 0", "sits 2 = 180", "sits 15 = 180",
            "sits 25 = 0");
        new Run("set 5 0 179", "pad " + "f9".repeat(20), "sits 1 = 179", "sits 2 = 1", "sits 25 = 0",
            "sits 24 = 180");
        new Run("set 5 0 180", "pad " + "f9".repeat(20), "sits 1 = NONE", "sits 2 = 0", "sits 25 = 0",
            "sits 15 = 180");
    }

    private static void sitsAtMost() {
        Due.part("promise 7: saves 1, 999 at most; the speaker saves nothing");
        new Run("saved 997 998 999 999", "pad .1", "sits 20 = 998", "sits 21 = 999", "sits 22 = 999",
            "pad .2", "sits 20 = 999", "sits 21 = 999", "pad d1.1", "sits 23 = 999", "pad d1",
            "sits 23 = 998", "sits 22 = 999", "pad .9d9", "sits 23 = 990", "pad d9.9d9", "sits 23 = 990");
    }

    private static void sitsLastMinuteSaved() {
        Due.part("promise 7: nothing to pay with");
        new Run("set 0 0 1", "pad a1", "sits 1 = NONE", "sits 2 = 0", "sits 20 = 0", "pad a2", "sits 1 = 1",
            "sits 2 = 1", "sits 20 = 0", "sits 21 = 2");
        new Run("pad a1", "sits 1 = 0", "sits 2 = 1", "sits 20 = 0", "sits 10 = 1", "sits {21..25} = 1",
            "pad .1a1", "sits 1 = NONE", "pad .1a1b1a2", "sits 1 = 4", "sits 2 = 1", "sits 20 = 0",
            "sits 10 = 3");
        new Run("pad .9a9", "sits 1 = NONE", "sits 20 = 0", "pad .9a9a1", "sits 1 = 18", "sits 2 = 1");
    }

    private static void sitsDue() {
        Due.part("promise 7: those by which DUE becomes even are free");
        new Run("set 0 3 1", "pad a1", "sits 1 = NONE", "sits 30 = 0", "sits 20 = 0", "pad a2", "sits 1 = 1",
            "sits 30 = 0");
        new Run("set 0 3 2", "pad a1", "sits 1 = 0", "sits 30 = 2", "set 0 0 1", "sits 1 = NONE",
            "sits 30 = 1", "sits 20 = 0", "pad a2", "sits 1 = NONE", "sits 30 = 0", "pad a3", "sits 1 = 2",
            "sits 2 = 1", "sits 30 = 0");
        new Run("set 0 3 3", "pad a1", "sits 1 = NONE", "sits 30 = 2", "pad a2", "sits 1 = 1", "sits 30 = 2",
            "set 0 0 1", "pad a3", "sits 1 = NONE", "sits 30 = 0", "sits 20 = 0");
        Due.part("promise 7: a minute WITHOUT, nothing is paid or becomes of DUE");
        new Run("saved 4", "set 0 3 3", "set 0 1 0", "pad a9", "sits 1 = 0", "sits 2 = 9", "sits 20 = 4",
            "sits 30 = 3");
        new Run("saved 4", "set 0 3 1", "set 0 2 0", "pad a9", "sits 1 = 0", "sits 2 = 9", "sits 20 = 4",
            "sits 30 = 1");
        new Run("set 0 3 2", "pad a2.1a2", "sits 1 = 0", "sits 2 = 2", "sits 30 = 0", "sits 20 = 0");
        Due.part("promise 7: a minute of silence, or of another one's, is none of an answer");
        new Run("set 0 3 99", "pad .9b9", "sits 30 = 99", "sits 20 = 18");
    }

    private static void sitsLongAnswer() {
        Due.part("promise 7: an answer of 99 minutes: 50 free, 49 paid");
        new Run("saved 49", "set 0 3 99", "pad " + "a9".repeat(11), "sits 0 = 99", "sits 1 = NONE",
            "sits 20 = 0", "sits 30 = 0", "sits 21 = 99");
        new Run("saved 48", "set 0 3 99", "pad " + "a9".repeat(11), "sits 1 = 97", "sits 2 = 2",
            "sits 20 = 0", "sits 30 = 2");
        new Run("saved 49", "set 0 3 99", "pad " + "a9".repeat(11) + "a1", "sits 1 = 99", "sits 2 = 1",
            "sits 30 = 0");
        Due.part("promise 7: of 98 minutes: 49 free, 49 paid");
        new Run("saved 49", "set 0 3 98", "pad " + "a9".repeat(10) + "a8", "sits 1 = NONE", "sits 20 = 0",
            "sits 30 = 0");
        new Run("saved 48", "set 0 3 98", "pad " + "a9".repeat(10) + "a8", "sits 1 = 96", "sits 2 = 2",
            "sits 30 = 2");
    }

    private static void sitsAsked() {
        Due.part("promise 7: DUE of who is asked is ASKED, 0 to 99");
        new Run("pad ?ab", "sits 31 = 2", "sits 30 = 0", "law 1 0", "sits 31 = 0", "set 1 3 7", "sits 31 = 0",
            "law 1 99", "sits 31 = 99", "pad ?ab?cb", "sits 31 = 99", "pad ?abb1?cb", "sits 31 = 99",
            "law 1 1", "pad ?abb1", "sits 1 = NONE", "sits 31 = 0", "pad ?fe", "sits 34 = 1", "sits 35 = 0");
        Due.part("promise 7: if both are IN and AWAKE");
        new Run("set 1 3 7", "pad ?ab", "sits 31 = 2", "set 0 1 0", "sits 31 = 7", "set 0 1 1", "set 0 2 0",
            "sits 31 = 7", "set 0 2 1", "set 1 1 0", "sits 31 = 7", "set 1 1 1", "set 1 2 0", "sits 31 = 7",
            "set 1 2 1", "sits 31 = 2");
        new Run("pad za?ab", "sits 31 = 0", "pad zaya?ab", "sits 31 = 2", "pad xaya?ab", "sits 31 = 0",
            "pad xaia?ab", "sits 31 = 2", "pad zb?ab", "sits 31 = 0", "pad xb?ab", "sits 31 = 0", "pad ?abxb",
            "sits 31 = 0", "pad ?abzb", "sits 31 = 2");
    }

    private static void sitsOutOrAsleep() {
        Due.part("promise 7: each other ONE that is IN and AWAKE");
        new Run("set {0 2} 1 0", "set {1 2} 2 0", "pad .3", "sits {20..22} = 0", "sits {23..25} = 3",
            "pad f3", "sits {20..22} = 0", "sits {23 24} = 3", "sits 25 = 0", "sits 1 = 0", "sits 2 = 3");
        new Run("set {0..5} 1 0", "pad .9", "sits {20..25} = 0", "sits 0 = 9", "sits 1 = NONE");
        new Run("set {0..5} 2 0", "pad .9", "sits {20..25} = 0", "sits 2 = 0");
        Due.part("promise 7: x: not IN, SAVED and DUE are 0; i: IN, AWAKE");
        new Run("saved 9", "set 0 3 9", "pad xa", "sits 20 = 0", "sits 30 = 0", "pad xaia", "sits 20 = 0",
            "sits 30 = 0", "pad xa.2ia.1a1", "sits 1 = NONE", "sits 20 = 0", "set 0 1 0", "pad xa",
            "sits 20 = 0", "pad ia", "sits 20 = 9", "sits 30 = 9", "pad iaia.1", "sits 20 = 10");
        new Run("saved 9", "set 0 2 0", "pad ia.1", "sits 20 = 10", "set 0 1 0", "sits 20 = 10", "pad ya.1",
            "sits 20 = 9", "pad ya", "sit = 0", "told 20 = 0", "told 30 = 1", "pad za", "sit = 0",
            "told 30 = 0", "pad ia", "sit = 0", "told 20 = 1", "told 30 = 1", "pad ia", "sit = 0",
            "told 20 = 1", "told 30 = 1", "told 10 = 9");
        new Run("pad xa", "sit = 0", "told 20 = 0", "told 30 = 1", "pad zb", "sit = 0", "told 21 = 1",
            "told 31 = 0");
    }

    private static void sitsNoTime() {
        Due.part("promise 7: z, y, x, i, k, ? take no time");
        new Run("pad " + "zayaxaiaka".repeat(4), "sits 0 = 0", "sits 1 = NONE", "sits {20..25} = 0");
        new Run("pad " + "?ab".repeat(13), "sits 0 = 0", "sits {20..25} = 0");
        new Run("pad kfxfif.1zfyf", "sits 0 = 1", "sits {20..25} = 1");
    }

    private static void sitsCough() {
        Due.part("promise 7: COUGH fewer SAVED, 0 at least");
        new Run("saved 4 5 6 0 999", "pad kakbkckdke", "sits {20 21 23} = 0", "sits 22 = 1", "sits 24 = 994",
            "sits 1 = NONE");
        new Run("law 0 0", "saved 0 1 999", "pad kakbkc", "sits 20 = 0", "sits 21 = 1", "sits 22 = 999");
        new Run("law 0 99", "saved 98 99 100 999", "pad kakbkckd", "sits {20 21} = 0", "sits 22 = 1",
            "sits 23 = 900");
        new Run("set 0 0 999", "pad " + "ka".repeat(20), "sits 20 = 899", "law 0 99", "sits 20 = 0");
        Due.part("promise 7: k, if IN");
        new Run("saved 9 9", "set 0 1 0", "set 1 2 0", "pad kakb", "sits 20 = 9", "sits 21 = 4", "pad xbkb.1",
            "sits 21 = 0");
    }

    private static void sit() {
        Due.part("promise 8: the SITTING is done, the PAD is empty then");
        new Run("sit = 0", "told 0 = 0", "sit = 0", "pad " + FULL_PAD, "sit = 180", "told 0 = 0",
            "told {10..15} = 180", "sit = 0", "told 10 = 180", "pad " + "a9".repeat(20), "sit = 180",
            "told 10 = 0", "told {11..15} = 360", "say 46 = 1");
        new Run("saved 990 990 990 990 990 990", "pad " + FULL_PAD, "sit = 180", "told {10..15} = 999");
        new Run("pad xa?bczd", "sit = 0", "told 20 = 0", "told 42 = 2", "told 33 = 0", "told 0 = 0",
            "told {10..15} = 0");
        new Run("set 0 3 1", "pad a1", "sit = 1", "told 40 = 0", "told 10 = 0", "told {11..15} = 1");
    }

    private static void sitWithout() {
        Due.part("promise 8: NO, some minute is WITHOUT");
        new Run("pad a1", "sit = NO", "told 0 = 2", "pad .1a2", "sit = NO", "pad .9a9a1", "sit = NO",
            "told 0 = 6", "pad .9a9", "sit = 18", "told 10 = 0", "told 11 = 18");
        new Run("pad " + "f9".repeat(20), "set 5 0 179", "sit = NO", "told 0 = 40", "told 15 = 179",
            "set 5 0 180", "sit = 180", "told 15 = 0");
        new Run("set 0 3 2", "pad a1", "sit = NO", "told 40 = 2", "set 0 3 1", "sit = 1", "told 40 = 0");
        new Run("saved 9 9", "set 0 1 0", "set 1 2 0", "pad a1", "sit = NO", "pad b1", "sit = NO", "pad iaa1",
            "sit = 1", "pad ybb1", "sit = 1");
        Due.part("promise 8: NO, there is a FAULT");
        new Run("saved 9", "pad a", "sit = NO", "pad a0", "sit = NO", "pad ?aa", "sit = NO", "pad .1*",
            "sit = NO", "told 0 = 3", "told 10 = 9", "pad ?ab".concat(".1".repeat(18)) + ".", "sit = NO",
            "told 0 = 40", "wipe = 40", "sit = 0");
        new Run("pad " + ".1".repeat(19) + "?a", "sit = NO", "told 0 = 40", "told 10 = 0");
    }
}
