/** Promises 17 to 20: each sentence that names a boundary case. */
public final class BookEdgesTest {
    public static void main(String[] args) {
        filledFaults();
        filledPlaces();
        filledWays();
        filledMost();
        filledSaved();
        lie();
        lieWithHoles();
        floor();
        friendsBounds();
        friendsFewest();
        Due.end("BookEdgesTest");
    }

    private static void filledFaults() {
        Due.part("promises 17 and 18: NO, there is a FAULT");
        new Run("filled {-1 0} 0 = NO", "lie = NO", "pad .", "filled -1 0 = 1", "lie = NONE", "pad g",
            "filled {-1 0} 0 = NO", "lie = NO", "pad .1", "filled {-1 0} 0 = NO", "lie = NO", "pad ?ab",
            "filled -1 0 = NO", "lie = NO");
        new Run("pad ............", "filled -1 0 = 1", "lie = NONE", "pad .............",
            "filled {-1 0} 0 = NO", "lie = NO");
        new Run("pad *****", "filled -1 0 = 2035", "lie = NONE", "pad ******", "filled {-1 0} 0 = NO",
            "lie = NO");
        new Run("pad " + ".".repeat(40), "filled -1 0 = NO", "lie = NO", "wipe = 40", "filled -1 0 = NO",
            "lie = NO");
    }

    private static void filledPlaces() {
        Due.part("promise 17: i = -1, the i-th from 0 on, NONE");
        new Run("pad .*", "filled -1 {0 1 -1 2 LOW HIGH} = 7", "filled 0 1 = 'a'", "filled 5 1 = 'f'",
            "filled 6 1 = '.'", "filled {7 8 -2 LOW HIGH} {0 1} = NONE");
        Due.part("promise 17: the k-th minute from 0 on, NONE");
        new Run("pad .*", "filled 0 0 = '.'", "filled 0 {-1 2 12 LOW HIGH} = NONE",
            "filled 6 {-1 2 11} = NONE", "filled 7 {-1 0 2} = NONE");
        new Run("pad ...........*", "filled 0 11 = 'a'", "filled 6 11 = '.'", "filled {0 6} {-1 12} = NONE",
            "filled 7 11 = NONE");
        new Run("pad *", "filled -1 0 = 1", "filled 0 0 = '.'", "filled 0 1 = NONE", "filled 1 0 = NONE");
    }

    private static void filledWays() {
        Due.part("promise 17: no way HOLDS");
        new Run("pad a", "filled -1 0 = 0", "filled {0 1 -2} 0 = NONE", "pad *a**aaaa", "filled -1 0 = 0",
            "filled 0 0 = NONE");
        Due.part("promise 17: one way, without a hole");
        new Run("pad .a", "filled -1 0 = 1", "filled 0 0 = '.'", "filled 0 1 = 'a'", "filled 1 {0 1} = NONE",
            "pad f", "set 5 0 1", "filled -1 0 = 1", "filled 0 0 = 'f'");
        Due.part("promise 17: a to f, then ., the first hole first");
        new Run("pad .**", "filled -1 0 = 43", "filled 0 1 = 'a'", "filled 0 2 = 'b'", "filled 5 1 = 'a'",
            "filled 5 2 = '.'", "filled 6 1 = 'b'", "filled 6 2 = 'a'", "filled 35 1 = 'f'",
            "filled 36 1 = '.'", "filled 36 2 = 'a'", "filled 41 2 = 'f'", "filled 42 1 = '.'",
            "filled 42 2 = '.'", "filled 43 1 = NONE");
    }

    private static void filledMost() {
        Due.part("promise 17: five holes, each of any of these seven");
        new Run("saved 5 5 5 5 5 5", "pad *****", "filled -1 0 = 16807", "filled 0 {0..4} = 'a'",
            "filled 1 4 = 'b'", "filled 6 4 = '.'", "filled 7 3 = 'b'", "filled 7 4 = 'a'",
            "filled 16806 {0..4} = '.'", "filled 16805 4 = 'f'", "filled 16805 3 = '.'",
            "filled {16807 HIGH} 0 = NONE");
        new Run("saved 4 5 5 5 5 5", "pad *****", "filled -1 0 = 16806", "filled 0 4 = 'b'",
            "filled 16805 4 = '.'", "filled 16806 0 = NONE");
        new Run("saved 999 999 999 999 999 999", "pad *......*.***", "filled -1 0 = 16807",
            "filled 0 7 = 'a'", "filled 16806 11 = '.'");
    }

    private static void filledSaved() {
        Due.part("promise 17: each who spoke had a minute SAVED");
        new Run("pad a", "filled -1 0 = 0", "set 0 0 1", "filled -1 0 = 1", "pad aa", "filled -1 0 = 0",
            "set 0 0 2", "filled -1 0 = 1", "pad aaaaaaaaaaaa", "set 0 0 11", "filled -1 0 = 0", "set 0 0 12",
            "filled -1 0 = 1");
        new Run("pad .aba", "filled -1 0 = 1", "pad .abaa", "filled -1 0 = 0", "pad .ab.aa",
            "filled -1 0 = 1");
        Due.part("promise 17: all IN and AWAKE, nothing half free");
        new Run("set {0..5} {1 2} 0", "pad .a", "filled -1 0 = 1", "set 0 3 99", "pad .aa", "filled -1 0 = 0",
            "pad .*", "filled -1 0 = 7");
    }

    private static void lie() {
        Due.part("promise 18: the first minute, from 0 on; NONE");
        new Run("pad a", "lie = 0", "set 0 0 1", "lie = NONE", "pad aa", "lie = 1", "pad aaaaaaaaaaaa",
            "lie = 1", "set 0 0 11", "lie = 11", "set 0 0 12", "lie = NONE", "set 0 0 999", "lie = NONE");
        new Run("pad .", "lie = NONE", "pad .a", "lie = NONE", "pad .aa", "lie = 2", "pad ......aaaaaa",
            "lie = NONE", "pad .....aaaaaa.", "lie = 10", "pad .....aaaaabf", "lie = NONE", "pad abcdef",
            "lie = 0", "pad .abcdefabcde", "lie = NONE");
        Due.part("promise 18: all IN and AWAKE, nothing half free");
        new Run("set 0 1 0", "set 0 2 0", "set 0 3 99", "pad .a", "lie = NONE", "pad .aa", "lie = 2");
    }

    private static void lieWithHoles() {
        Due.part("promise 18: up to which no way HOLDS");
        new Run("pad *", "lie = NONE", "pad *a", "lie = NONE", "pad *aa", "lie = 2", "pad a*", "lie = 0",
            "pad *****", "lie = NONE", "pad *****aaaaa", "lie = NONE", "pad *****aaaaaa*", "lie = NO",
            "pad ****.aaaaaa*", "lie = 10", "pad ****.aaaaa*a", "lie = NONE", "pad ****.aaaaaba",
            "lie = NONE", "pad ****.aaaaaab", "lie = 10");
        new Run("pad *......aaaaa", "lie = NONE", "set 0 0 1", "pad *....aaaaaaa", "lie = 11",
            "pad *....aaaaaaab", "lie = NO");
    }

    private static void floor() {
        Due.part("promise 19: bits 0 to 63");
        new Run("floor {0 63} = 0", "floor {-1 64 65 LOW HIGH} = OUTSIDE", "set 5 0 1", "floor 63 = EVER",
            "floor 0 = 0");
        Due.part("promise 19: one alone, as long as what it has SAVED");
        new Run("saved 999 1 0", "floor 1 = 999", "floor 2 = 1", "floor {4 8 16 32} = 0");
        Due.part("promise 19: two, for ever, if one of them has SAVED");
        new Run("saved 1", "floor {3 5 9 17 33} = EVER", "floor {6 24 62 48} = 0", "floor 1 = 1",
            "floor 63 = EVER");
        Due.part("promise 19: IN, AWAKE or not");
        new Run("saved 3", "set {0 1} {1 2} 0", "floor 1 = 3", "floor 3 = EVER", "set 0 3 99", "floor 1 = 3",
            "saved 0", "floor {1 3} = 0");
    }

    private static void friendsBounds() {
        Due.part("promise 20: minutes 0 to 999");
        new Run("set 2 0 999", "friends 2 0 = 4", "friends 2 999 = 4",
            "friends {0..5} {-1 1000 LOW HIGH} = OUTSIDE", "friends {-1 6 LOW HIGH} 0 = UNKNOWN",
            "set 2 0 998", "friends 2 998 = 4", "friends 2 999 = 5");
        Due.part("promise 20: with a ONE, it, too");
        new Run("friends 0 0 = 1", "friends 1 0 = 2", "friends 2 0 = 4", "friends 3 0 = 8",
            "friends 4 0 = 16", "friends 5 0 = 32");
        Due.part("promise 20: NONE");
        new Run("friends {0..5} {1 2 999} = NONE", "set 5 0 1", "friends 0 1 = 33", "friends 5 1 = 32",
            "friends 5 2 = 33");
    }

    private static void friendsFewest() {
        Due.part("promise 20: the fewest; of several the least as bits");
        new Run("saved 0 0 7 0 5 0", "friends 2 7 = 4", "friends 2 8 = 5", "friends 4 5 = 16",
            "friends 4 6 = 17", "friends 0 1 = 5", "friends 1 1 = 6", "friends 3 1 = 12",
            "friends 5 999 = 36");
        new Run("saved 1 1 1 1 1 1", "friends 5 1 = 32", "friends 5 2 = 33", "friends 0 2 = 3",
            "friends 0 1 = 1");
        Due.part("promise 20: friends, IN, AWAKE or not");
        new Run("set {0..5} {1 2} 0", "set 0 0 3", "friends 0 3 = 1", "friends 0 4 = 3", "friends 5 1 = 33");
        Due.part("promise 20: from what they have SAVED");
        new Run("set {0..5} 3 99", "friends {0..5} 1 = NONE", "set 0 0 1", "friends 0 1 = 1", "friends 0 2 = 3",
            "friends 5 1 = 33");
    }
}
