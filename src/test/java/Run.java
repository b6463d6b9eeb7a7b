import java.util.ArrayList;
import java.util.List;

/**
 * Rows of calls of one council, each with the answer that is due: "set 0 0 999 = 0", "told 10 = 999".
 * A row without an answer is only done; "pad .5a2" says a text in place of what is on the pad,
 * "saved 1 0 7" sets what the first ones have saved. {0 1 5..9 LOW HIGH} in a row makes a row of each,
 * 'x' is a sign's code.
 *
 * A row whose answer is a refusal, and one whose call only asks, is tried once more on a council that
 * went the same way: behind it all that can be told must be as on another one that did not ask it.
 */
final class Run {
    private static final String ASKING = " fault sits about least dealt net gifts filled lie floor friends told ";

    private final Council council = new Council();
    private final List<String> done = new ArrayList<>();

    Run(String... rows) {
        asks(rows);
    }

    Run asks(String... rows) {
        for (String row : rows) {
            askEach(row);
        }
        return this;
    }

    int left() {
        return council.left();
    }

    /** Asks until one of the 512 calls is left. */
    Run toLastCall() {
        while (council.left() > 1) {
            council.told(0);
        }
        return this;
    }

    private void askEach(String row) {
        int from = row.startsWith("pad ") ? -1 : row.indexOf('{');
        if (from < 0) {
            ask(row);
            return;
        }
        int to = row.indexOf('}', from);
        for (String word : row.substring(from + 1, to).split(" ")) {
            int dots = word.indexOf("..");
            int first = dots < 0 ? 0 : number(word.substring(0, dots));
            int last = dots < 0 ? 0 : number(word.substring(dots + 2));
            for (int n = first; n <= last; n++) {
                askEach(row.substring(0, from) + (dots < 0 ? word : "" + n) + row.substring(to + 1));
            }
        }
    }

    private void ask(String row) {
        int cut = row.startsWith("pad ") ? -1 : row.lastIndexOf(" = ");
        if (cut < 0) {
            does(council, row);
            done.add(row);
            return;
        }
        String call = row.substring(0, cut);
        int want = number(row.substring(cut + 3));
        Due.is(call, answer(council, call), want);
        boolean refused = want < 0 && want != SilentCouncil.NONE;
        if (refused || ASKING.contains(" " + call.split(" ")[0] + " ")) {
            changesNothing(call);
        } else {
            done.add(call);
        }
    }

    private void changesNothing(String call) {
        Council asked = sameWay();
        Council other = sameWay();
        answer(asked, call);
        Due.holds(call + " changes nothing", whole(asked).equals(whole(other)));
    }

    private Council sameWay() {
        Council x = new Council();
        for (String row : done) {
            does(x, row);
        }
        return x;
    }

    static void does(Council x, String row) {
        String[] words = row.split(" ", 2);
        if (words[0].equals("pad")) {
            Due.write(x, words[1]);
        } else if (words[0].equals("saved")) {
            Due.saved(x, numbers(words[1]));
        } else {
            answer(x, row);
        }
    }

    /** All that a council can be brought to tell, its images too; it is of no use behind it. */
    private static String whole(Council x) {
        StringBuilder whole = new StringBuilder(Due.all(x));
        int sittingFault = x.fault(0);
        int bookFault = x.fault(1);
        int signs = bookFault == SilentCouncil.NONE ? x.told(0) : 0;
        whole.append("|pad ").append(sittingFault).append(' ').append(bookFault);
        for (int what = 0; sittingFault == SilentCouncil.NONE && what < 36; what++) {
            if (what < 3 || what >= 10 && what % 10 < 6) {
                whole.append(' ').append(x.sits(what));
            }
        }
        for (int k = 0; k < signs; k++) {
            whole.append(' ').append(x.filled(0, k));
        }
        for (int n = 0; n < 2; n++) {
            int restored = x.restore(n);
            whole.append("|image ").append(restored);
            if (restored == 1) {
                whole.append(' ').append(Due.all(x));
            }
        }
        return whole.toString();
    }

    private static int[] numbers(String text) {
        String[] words = text.split(" ");
        int[] numbers = new int[words.length];
        for (int i = 0; i < words.length; i++) {
            numbers[i] = number(words[i]);
        }
        return numbers;
    }

    static int number(String word) {
        switch (word) {
            case "NONE":
                return SilentCouncil.NONE;
            case "UNKNOWN":
                return SilentCouncil.UNKNOWN;
            case "OUTSIDE":
                return SilentCouncil.OUTSIDE;
            case "STATE":
                return SilentCouncil.STATE;
            case "FULL":
                return SilentCouncil.FULL;
            case "NO":
                return SilentCouncil.NO;
            case "LOW":
                return Integer.MIN_VALUE;
            case "HIGH":
                return Integer.MAX_VALUE;
            case "EVER":
                return 1000000;
            default:
                return word.charAt(0) == '\'' ? word.charAt(1) : Integer.parseInt(word);
        }
    }

    static int answer(Council x, String call) {
        String[] words = call.split(" ", 2);
        int[] n = words.length < 2 ? new int[0] : numbers(words[1]);
        switch (words[0] + " " + n.length) {
            case "set 3":
                return x.set(n[0], n[1], n[2]);
            case "law 2":
                return x.law(n[0], n[1]);
            case "say 1":
                return x.say(n[0]);
            case "wipe 0":
                return x.wipe();
            case "fault 1":
                return x.fault(n[0]);
            case "sits 1":
                return x.sits(n[0]);
            case "sit 0":
                return x.sit();
            case "matter 3":
                return x.matter(n[0], n[1], n[2]);
            case "about 2":
                return x.about(n[0], n[1]);
            case "clear 0":
                return x.clear();
            case "least 1":
                return x.least(n[0]);
            default:
                return answerMore(x, words[0] + " " + n.length, n);
        }
    }

    private static int answerMore(Council x, String call, int[] n) {
        switch (call) {
            case "dealt 2":
                return x.dealt(n[0], n[1]);
            case "lend 3":
                return x.lend(n[0], n[1], n[2]);
            case "net 1":
                return x.net(n[0]);
            case "gifts 0":
                return x.gifts();
            case "filled 2":
                return x.filled(n[0], n[1]);
            case "lie 0":
                return x.lie();
            case "floor 1":
                return x.floor(n[0]);
            case "friends 2":
                return x.friends(n[0], n[1]);
            case "image 1":
                return x.image(n[0]);
            case "restore 1":
                return x.restore(n[0]);
            case "told 1":
                return x.told(n[0]);
            default:
                throw new IllegalStateException("no call of the face: " + call);
        }
    }
}
