import java.util.ArrayList;
import java.util.List;
import java.util.Random;

/**
 * Calls with any arguments in any state (LANGUAGE.md, rule 7): each is answered, by a number that the
 * document has for it; the same calls have the same answers (rule 13), also beside another council.
 */
public final class AnyCallsTest {
    private static final int NONE = -6, UNKNOWN = -1, OUTSIDE = -2, STATE = -3, FULL = -4, NO = -5;
    private static final int RUNS = 60, LATER_CALLS = 3000;
    private static final int[] FAR = {Integer.MIN_VALUE, Integer.MIN_VALUE + 1, -65536, -1000, -100, -7, -2, -1, 6, 7,
        8, 9, 10, 15, 16, 31, 32, 33, 40, 61, 63, 64, 99, 100, 126, 127, 128, 135, 136, 255, 256, 999, 1000, 16807,
        65536, 1000000, Integer.MAX_VALUE - 1, Integer.MAX_VALUE};
    private static final String[] CALLS = {"set 3", "set 3", "law 2", "say 1", "say 1", "say 1", "say 1", "wipe 0",
        "fault 1", "sits 1", "sits 1", "sit 0", "matter 3", "matter 3", "matter 3", "matter 3", "matter 3", "matter 3",
        "about 2", "least 1", "least 1", "dealt 2", "dealt 2", "lend 3", "lend 3", "net 1", "gifts 0", "filled 2",
        "filled 2", "lie 0", "floor 1", "friends 2", "image 1", "restore 1", "told 1"};
    private static final String[] TEXTS = {".9", ".3", "a2", "b1", "c9", "f1", "za", "yb", "xc", "ia", "ke", "?ab",
        "?fa", "..a*", "a", "*", ".bcd", "f", "*.*.*.*", "1", "~"};

    public static void main(String[] args) {
        for (int seed = 0; seed < RUNS; seed++) {
            run(seed);
        }
        later();
        Due.end("AnyCallsTest");
    }

    private static int any(Random random) {
        switch (random.nextInt(12)) {
            case 0:
                return FAR[random.nextInt(FAR.length)];
            case 1:
                return random.nextInt();
            case 2:
                return random.nextInt(140);
            default:
                return random.nextInt(6);
        }
    }

    private static List<String> calls(Random random, int many) {
        List<String> calls = new ArrayList<>();
        while (calls.size() < many) {
            String[] call = CALLS[random.nextInt(CALLS.length)].split(" ");
            if (random.nextInt(200) == 0) {
                calls.add("clear");
            } else if (call[0].equals("say")) {
                say(random, calls);
            } else {
                calls.add(row(random, call[0], Integer.parseInt(call[1])));
            }
        }
        return calls.subList(0, many);
    }

    private static String row(Random random, String call, int arguments) {
        StringBuilder row = new StringBuilder(call);
        for (int n = 0; n < arguments; n++) {
            boolean behind = call.equals("matter") && n == 2;
            boolean first = call.equals("least") || call.equals("dealt") && n == 1 || call.equals("filled") && n == 0;
            boolean plain = random.nextInt(3) > 0;
            int number = plain && behind ? 0 : plain && first ? random.nextInt(7) - 1 : any(random);
            row.append(' ').append(number);
        }
        return row.toString();
    }

    private static void say(Random random, List<String> calls) {
        if (random.nextInt(20) == 0) {
            calls.add("say " + any(random));
            return;
        }
        for (char sign : TEXTS[random.nextInt(TEXTS.length)].toCharArray()) {
            calls.add("say " + (int) sign);
        }
    }

    private static void run(int seed) {
        Due.part("run " + seed);
        List<String> calls = calls(new Random(seed), Council.MOST_CALLS);
        List<String> others = calls(new Random(seed + RUNS), Council.MOST_CALLS);
        int[] alone = new int[Council.MOST_CALLS];
        Council x = new Council();
        for (int n = 0; n < alone.length; n++) {
            alone[n] = Run.answer(x, calls.get(n));
            Due.holds(calls.get(n) + " can answer " + alone[n], canAnswer(calls.get(n).split(" ")[0], alone[n]));
        }
        Council again = new Council();
        Council other = new Council();
        for (int n = 0; n < alone.length; n++) {
            Run.answer(other, others.get(n));
            Due.is(calls.get(n) + " beside another council", Run.answer(again, calls.get(n)), alone[n]);
        }
    }

    private static void later() {
        Due.part("calls behind the 512th");
        for (int seed = 0; seed < 5; seed++) {
            Council x = new Council(LATER_CALLS);
            for (String call : calls(new Random(seed), LATER_CALLS)) {
                Run.answer(x, call);
            }
            Due.is("calls left", x.left(), 0);
        }
    }

    private static boolean in(int answer, int low, int high, int... others) {
        for (int other : others) {
            if (answer == other) {
                return true;
            }
        }
        return answer >= low && answer <= high;
    }

    private static boolean canAnswer(String call, int answer) {
        switch (call) {
            case "set":
                return in(answer, 0, 999, UNKNOWN, OUTSIDE);
            case "law":
                return in(answer, 0, 99, OUTSIDE);
            case "say":
                return in(answer, 1, 40, OUTSIDE, FULL);
            case "wipe":
                return in(answer, 0, 40);
            case "fault":
                return in(answer, 0, 40, OUTSIDE, NONE);
            case "sits":
                return in(answer, 0, 999, OUTSIDE, NO, NONE);
            case "sit":
                return in(answer, 0, 180, NO);
            case "matter":
                return in(answer, 0, 7, UNKNOWN, OUTSIDE, FULL);
            case "about":
                return in(answer, 0, 127, UNKNOWN, OUTSIDE);
            case "clear":
                return in(answer, 0, 8);
            case "least":
                return in(answer, 0, 960, NONE);
            default:
                return canAnswerMore(call, answer);
        }
    }

    private static boolean canAnswerMore(String call, int answer) {
        switch (call) {
            case "dealt":
                return in(answer, 0, 960, UNKNOWN, OUTSIDE, NO, NONE);
            case "lend":
                return in(answer, 0, 99, UNKNOWN, OUTSIDE);
            case "net":
                return in(answer, 505, 1495, UNKNOWN);
            case "gifts":
                return in(answer, 0, 5);
            case "filled":
                return in(answer, 0, 16807, NO, NONE);
            case "lie":
                return in(answer, 0, 11, NO, NONE);
            case "floor":
                return in(answer, 0, 999, OUTSIDE, 1000000);
            case "friends":
                return in(answer, 1, 63, UNKNOWN, OUTSIDE, NONE);
            case "image":
                return in(answer, 1, 1, OUTSIDE);
            case "restore":
                return in(answer, 1, 1, OUTSIDE, STATE);
            default:
                return in(answer, 0, 999, OUTSIDE);
        }
    }
}
