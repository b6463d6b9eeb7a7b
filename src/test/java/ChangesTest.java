import java.util.Map;
import java.util.TreeMap;
import java.util.TreeSet;

/** Of each call that changes something: what it changes, and that all else stays, the pad and both images too. */
public final class ChangesTest {
    /** Something of everything; two images that are not alike, and not as it is now. */
    private static final String[] USED = {"saved 21 22 23 24 25 26", "set 1 1 0", "set 2 2 0", "set 3 3 99",
        "set 4 3 7", "law 0 7", "law 1 9", "lend 0 1 5", "lend 4 2 99", "lend 2 4 1", "matter 0 2 0",
        "matter 5 60 1", "image 1", "saved 31 32 33", "set 5 1 0", "lend 0 1 6", "law 0 8", "matter 3 1 3",
        "image 0", "saved 41 42 43", "set 5 2 0", "lend 5 0 17", "law 1 19", "matter 1 9 5"};
    private static final String BOOK = "pad .abc.def";

    public static void main(String[] args) {
        sets();
        laws();
        signs();
        sittings();
        matters();
        lends();
        images();
        Due.end("ChangesTest");
    }

    private static void putAll(Map<String, Integer> all, String where, Council x) {
        for (int what = 1; what < 136; what++) {
            if (what < 4 || what >= 10 && what < 50 && what % 10 < 6 || what >= 100) {
                all.put(where + "told " + what, x.told(what));
            }
        }
        for (int matter = 0; matter < x.told(1); matter++) {
            for (int what = 0; what < 3; what++) {
                all.put(where + "about " + matter + " " + what, x.about(matter, what));
            }
        }
    }

    /** All of a council, by name; it is of no use behind it. */
    private static Map<String, Integer> whole(Council x) {
        Map<String, Integer> all = new TreeMap<>();
        all.put("signs", x.told(0));
        putAll(all, "", x);
        for (int k = 0; k < 12 && x.fault(1) == SilentCouncil.NONE; k++) {
            all.put("sign " + k, x.filled(0, k));
        }
        for (int n = 0; n < 2; n++) {
            if (x.restore(n) == 1) {
                putAll(all, "image " + n + ": ", x);
            }
        }
        return all;
    }

    private static Council used(String pad) {
        Council x = new Council();
        for (String row : USED) {
            Run.does(x, row);
        }
        Run.does(x, pad);
        return x;
    }

    /** Rows of changes: a name of it, and what it is then; "-" if it is no more. */
    private static void changes(String pad, String call, String... changes) {
        Map<String, Integer> due = whole(used(pad));
        for (String change : changes) {
            int cut = change.lastIndexOf(" = ");
            String value = change.substring(cut + 3);
            if (value.equals("-")) {
                due.remove(change.substring(0, cut));
            } else {
                due.put(change.substring(0, cut), Integer.valueOf(value));
            }
        }
        Council x = used(pad);
        Run.does(x, call);
        same(call, whole(x), due);
    }

    private static void sets() {
        Due.part("promise 2");
        int[] other = {77, 0, 0, 55};
        for (int one = 0; one < 6; one++) {
            for (int what = 0; what < 4; what++) {
                String told = "told " + (10 + 10 * what + one);
                changes(BOOK, "set " + one + " " + what + " " + other[what], told + " = " + other[what]);
                if (what == 1 || what == 2) {
                    changes(BOOK, "set " + one + " " + what + " 1", told + " = 1");
                }
            }
        }
    }

    private static void laws() {
        Due.part("promise 3");
        changes(BOOK, "law 0 66", "told 2 = 66");
        changes(BOOK, "law 1 66", "told 3 = 66");
    }

    private static void signs() {
        Due.part("promise 4");
        changes(BOOK, "say 101", "signs = 9", "sign 8 = 101");
        changes(BOOK, "say 46", "signs = 9", "sign 8 = 46");
        Due.part("promise 5");
        changes("pad !!!", "wipe", "signs = 0");
        changes("pad .ab", "wipe", "signs = 0", "sign 0 = -", "sign 1 = -", "sign 2 = -", "sign 3 = -", "sign 4 = -",
            "sign 5 = -", "sign 6 = -", "sign 7 = -", "sign 8 = -", "sign 9 = -", "sign 10 = -", "sign 11 = -");
        changes("pad ?ab.9", "wipe", "signs = 0");
    }

    /** b and f are out, c and f asleep; d is due 99, e 7; a cough costs 8, who is asked is due 19. */
    private static void sittings() {
        Due.part("promise 8");
        changes("pad !!!", "sit");
        changes("pad a9a9a9a9a6", "sit");
        changes("pad .2", "sit", "signs = 0", "told 10 = 43", "told 13 = 26", "told 14 = 27");
        changes("pad a2", "sit", "signs = 0", "told 10 = 39", "told 13 = 26", "told 14 = 27");
        changes("pad e3", "sit", "signs = 0", "told 10 = 44", "told 13 = 27", "told 14 = 24", "told 44 = 4");
        changes("pad d1", "sit", "signs = 0", "told 10 = 42", "told 14 = 26", "told 43 = 98");
        changes("pad d2", "sit", "signs = 0", "told 10 = 43", "told 13 = 23", "told 14 = 27", "told 43 = 97");
        changes("pad xdzaibyckakb", "sit", "signs = 0", "told 13 = 0", "told 23 = 0", "told 43 = 0", "told 30 = 0",
            "told 21 = 1", "told 32 = 1", "told 10 = 33", "told 11 = 34");
        changes("pad ?ad?ba?ac?ea", "sit", "signs = 0", "told 43 = 19", "told 40 = 19");
    }

    private static void matters() {
        Due.part("promise 9");
        changes(BOOK, "matter 2 59 13", "told 1 = 5", "about 4 0 = 2", "about 4 1 = 59", "about 4 2 = 13");
        Due.part("promise 11");
        changes(BOOK, "clear", "told 1 = 0", "about 0 0 = -", "about 0 1 = -", "about 0 2 = -", "about 1 0 = -",
            "about 1 1 = -", "about 1 2 = -", "about 2 0 = -", "about 2 1 = -", "about 2 2 = -", "about 3 0 = -",
            "about 3 1 = -", "about 3 2 = -");
    }

    private static void lends() {
        Due.part("promise 14");
        for (int one = 0; one < 6; one++) {
            for (int to = 0; to < 6; to++) {
                if (one != to) {
                    changes(BOOK, "lend " + one + " " + to + " 88", "told " + (100 + 6 * one + to) + " = 88");
                    changes(BOOK, "lend " + one + " " + to + " 0", "told " + (100 + 6 * one + to) + " = 0");
                }
            }
        }
    }

    private static void images() {
        Due.part("promises 21 and 22");
        for (int n = 0; n < 2; n++) {
            String image = "image " + n + ": ";
            Map<String, Integer> before = whole(used(BOOK));
            Council kept = used(BOOK);
            kept.image(n);
            taken("image " + n, whole(kept), before, "", image);
            Council restored = used(BOOK);
            restored.restore(n);
            taken("restore " + n, whole(restored), before, image, "");
        }
    }

    /** What told and about tell of the one place is in the other place then; all else is as before. */
    private static void taken(String call, Map<String, Integer> is, Map<String, Integer> before, String from,
            String to) {
        Map<String, Integer> due = new TreeMap<>();
        for (String name : before.keySet()) {
            String place = placeOf(name);
            if (name.startsWith("sign") || !place.equals(to)) {
                due.put(name, before.get(name));
            }
            if (!name.startsWith("sign") && place.equals(from)) {
                due.put(to + name.substring(place.length()), before.get(name));
            }
        }
        same(call, is, due);
    }

    private static String placeOf(String name) {
        return name.startsWith("image") ? name.substring(0, "image 0: ".length()) : "";
    }

    private static void same(String call, Map<String, Integer> is, Map<String, Integer> due) {
        TreeSet<String> names = new TreeSet<>(due.keySet());
        names.addAll(is.keySet());
        for (String name : names) {
            Due.holds(call + ", " + name + ": " + is.get(name) + ", due is " + due.get(name),
                due.containsKey(name) && due.get(name).equals(is.get(name)));
        }
    }
}
