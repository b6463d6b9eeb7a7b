/** Promises 14 to 16: each sentence that names a boundary case. */
public final class LentEdgesTest {
    public static void main(String[] args) {
        lendOnes();
        lendMinutes();
        net();
        giftsFewest();
        giftsMost();
        Due.end("LentEdgesTest");
    }

    private static void lendOnes() {
        Due.part("promise 14: another one");
        new Run("lend {-1 6 LOW HIGH} {0 5} 1 = UNKNOWN", "lend {0 5} {-1 6 LOW HIGH} 1 = UNKNOWN",
            "lend {-1 6 LOW HIGH} {-1 6 LOW HIGH} 1 = UNKNOWN");
        new Run("lend 0 0 {0 1 99} = UNKNOWN", "lend 1 1 0 = UNKNOWN", "lend 2 2 0 = UNKNOWN",
            "lend 3 3 0 = UNKNOWN", "lend 4 4 0 = UNKNOWN", "lend 5 5 {0 1 99} = UNKNOWN");
        Due.part("promise 14: for each two");
        for (int one = 0; one < 6; one++) {
            for (int to = 0; to < 6; to++) {
                int place = 100 + 6 * one + to;
                if (one != to) {
                    new Run("lend " + one + " " + to + " 9 = 0", "told " + place + " = 9",
                        "told " + (100 + 6 * to + one) + " = 0", "net " + one + " = 1009",
                        "net " + to + " = 991", "gifts = 1", "lend " + one + " " + to + " 0 = 9",
                        "gifts = 0");
                }
            }
        }
    }

    private static void lendMinutes() {
        Due.part("promise 14: 0 to 99");
        new Run("lend 0 5 99 = 0", "lend 5 0 {-1 100 LOW HIGH} = OUTSIDE", "lend 0 5 {-1 100} = OUTSIDE",
            "told 105 = 99", "told 130 = 0", "lend 0 5 98 = 99", "lend 0 5 0 = 98", "lend 0 5 0 = 0",
            "lend 5 0 1 = 0", "lend 5 0 1 = 1");
    }

    private static void net() {
        Due.part("promise 15: NET, and 1000: from 505 to 1495");
        new Run("lend 0 {1..5} 99 = 0", "net 0 = 1495", "net {1..5} = 901", "net {-1 6 LOW HIGH} = UNKNOWN",
            "lend {1..5} 0 99 = 0", "net {0..5} = 1000", "lend 0 {1..5} 0 = 99", "net 0 = 505",
            "net {1..5} = 1099");
        new Run("lend {0..4} 5 99 = 0", "net 5 = 505", "net {0..4} = 1099", "lend 0 5 98 = 99", "net 5 = 506",
            "net 0 = 1098");
        Due.part("promise 15: there is no such ONE");
        new Run("net 0 = 1000", "net 5 = 1000", "net {-1 6 7 LOW HIGH} = UNKNOWN");
    }

    private static void giftsFewest() {
        Due.part("promise 16: all NETS are 0 already");
        new Run("gifts = 0", "lend 0 1 9", "lend 1 0 9", "gifts = 0", "lend 2 3 1", "lend 3 4 1", "gifts = 1",
            "lend 4 2 1", "gifts = 0");
        new Run("lend {0..5} {0..5} 99", "gifts = 0", "lend 5 0 98 = 99", "gifts = 1");
        Due.part("promise 16: fewest, by those whose NETS are 0 together");
        new Run("lend 0 1 1", "gifts = 1", "lend 2 3 1", "gifts = 2", "lend 4 5 1", "gifts = 3",
            "lend 4 5 99", "gifts = 3", "lend 0 3 1", "gifts = 3", "lend 0 5 2", "gifts = 4", "lend 2 5 4",
            "gifts = 5");
    }

    private static void giftsMost() {
        Due.part("promise 16: five at most");
        new Run("lend 0 {1..5} 99", "gifts = 5", "lend {1..5} 0 98", "gifts = 5", "lend 5 0 99", "gifts = 4");
        new Run("lend {1..5} 0 1", "gifts = 5");
        new Run("lend 0 3 1", "lend 0 4 2", "lend 1 4 4", "lend 1 5 8", "lend 2 5 16", "gifts = 5");
    }
}
