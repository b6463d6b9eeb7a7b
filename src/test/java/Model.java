import java.util.ArrayList;
import java.util.Arrays;
import java.util.List;
import java.util.regex.Matcher;
import java.util.regex.Pattern;

/** The council once more, told as slowly and plainly as the document tells it. */
final class Model {
    private static final int NONE = -6, UNKNOWN = -1, OUTSIDE = -2, STATE = -3, FULL = -4, NO = -5;
    private static final Pattern ASKING = Pattern.compile("\\?(a[b-f]|b[ac-f]|c[abd-f]|d[a-cef]|e[a-df]|f[a-e])");
    private static final Pattern PART = Pattern.compile("[a-f.][1-9]|[zyxik][a-f]|" + ASKING.pattern());
    private static final Pattern SITTING = Pattern.compile("(" + PART.pattern() + ")*");
    private static final Pattern BOOK = Pattern.compile("[a-f.*]{1,12}");

    private static final class Man {
        int saved = 0;
        boolean in = true;
        boolean awake = true;
        int due = 0;
        int spoke = 0;

        Man copy() {
            Man man = new Man();
            man.saved = saved;
            man.in = in;
            man.awake = awake;
            man.due = due;
            return man;
        }
    }

    private static final class World {
        Man[] men = new Man[6];
        int cough = 5;
        int asked = 2;
        List<int[]> matters = new ArrayList<>();
        int[][] lent = new int[6][6];

        World copy() {
            World world = new World();
            for (int one = 0; one < 6; one++) {
                world.men[one] = men[one] == null ? new Man() : men[one].copy();
                world.lent[one] = lent[one].clone();
            }
            world.cough = cough;
            world.asked = asked;
            world.matters.addAll(matters);
            return world;
        }
    }

    private World world = new World().copy();
    private final World[] images = new World[2];
    private String pad = "";

    private static boolean isOne(int one) {
        return one >= 0 && one <= 5;
    }

    int set(int one, int what, int v) {
        if (!isOne(one)) {
            return UNKNOWN;
        }
        Man man = world.men[one];
        if (what == 0 && v >= 0 && v <= 999) {
            int was = man.saved;
            man.saved = v;
            return was;
        }
        if (what == 1 && (v == 0 || v == 1)) {
            boolean was = man.in;
            man.in = v == 1;
            return was ? 1 : 0;
        }
        if (what == 2 && (v == 0 || v == 1)) {
            boolean was = man.awake;
            man.awake = v == 1;
            return was ? 1 : 0;
        }
        if (what == 3 && v >= 0 && v <= 99) {
            int was = man.due;
            man.due = v;
            return was;
        }
        return OUTSIDE;
    }

    int law(int which, int v) {
        if (which != 0 && which != 1 || v < 0 || v > 99) {
            return OUTSIDE;
        }
        int was = which == 0 ? world.cough : world.asked;
        if (which == 0) {
            world.cough = v;
        } else {
            world.asked = v;
        }
        return was;
    }

    int say(int sign) {
        if (sign < 33 || sign > 126) {
            return OUTSIDE;
        }
        if (pad.length() == 40) {
            return FULL;
        }
        pad += (char) sign;
        return pad.length();
    }

    int wipe() {
        int were = pad.length();
        pad = "";
        return were;
    }

    int fault(int how) {
        if (how == 0) {
            return sittingFault();
        }
        return how == 1 ? bookFault() : OUTSIDE;
    }

    private int sittingFault() {
        for (int length = 1; length <= pad.length(); length++) {
            Matcher matcher = SITTING.matcher(pad.substring(0, length));
            if (!matcher.matches() && !canGoOn(pad.substring(0, length))) {
                return length - 1;
            }
        }
        return SITTING.matcher(pad).matches() ? NONE : pad.length();
    }

    private static boolean canGoOn(String text) {
        for (String more : new String[] {"1", "a", "ab", "b"}) {
            if (SITTING.matcher(text + more).matches()) {
                return true;
            }
        }
        return false;
    }

    private int bookFault() {
        if (pad.isEmpty()) {
            return 0;
        }
        for (int length = 1; length <= pad.length(); length++) {
            String text = pad.substring(0, length);
            if (!BOOK.matcher(text).matches() || text.replaceAll("[^*]", "").length() > 5) {
                return length - 1;
            }
        }
        return NONE;
    }

    /** Minutes, the first without, how many without; then the men, as they are behind it. */
    private int[] hold(Man[] men) {
        int[] told = {0, NONE, 0};
        Matcher part = PART.matcher(pad);
        while (part.find()) {
            String text = part.group();
            char head = text.charAt(0);
            char next = text.charAt(1);
            if (Character.isDigit(next)) {
                for (int n = next - '0'; n > 0; n--) {
                    minute(men, head == '.' ? null : men[head - 'a'], told);
                }
            } else if (head == '?') {
                Man answers = men[text.charAt(2) - 'a'];
                if (men[next - 'a'].in && men[next - 'a'].awake && answers.in && answers.awake) {
                    answers.due = world.asked;
                }
            } else {
                stir(head, men[next - 'a']);
            }
        }
        return told;
    }

    private void stir(char head, Man man) {
        if (head == 'z') {
            man.awake = false;
        } else if (head == 'y') {
            man.awake = true;
        } else if (head == 'x') {
            man.in = false;
            man.saved = 0;
            man.due = 0;
        } else if (head == 'i') {
            man.in = true;
            man.awake = true;
        } else if (man.in) {
            man.saved -= man.saved < world.cough ? man.saved : world.cough;
        }
    }

    private static void minute(Man[] men, Man speaker, int[] told) {
        if (speaker != null) {
            speaker.spoke++;
            boolean free = speaker.due == 1 || speaker.due > 1 && speaker.due % 2 == 1;
            if (!speaker.in || !speaker.awake || !free && speaker.saved == 0) {
                told[1] = told[2] == 0 ? told[0] : told[1];
                told[2]++;
            } else {
                speaker.saved -= free ? 0 : 1;
                speaker.due -= speaker.due > 0 ? 1 : 0;
            }
        }
        for (Man man : men) {
            if (man != speaker && man.in && man.awake && man.saved < 999) {
                man.saved++;
            }
        }
        told[0]++;
    }

    int sits(int what) {
        boolean known = what >= 0 && what <= 2 || what >= 10 && what <= 15 || what >= 20 && what <= 25
            || what >= 30 && what <= 35;
        if (!known) {
            return OUTSIDE;
        }
        if (sittingFault() != NONE) {
            return NO;
        }
        Man[] men = world.copy().men;
        int[] told = hold(men);
        if (what <= 2) {
            return told[what];
        }
        Man man = men[what % 10];
        return what < 20 ? man.spoke : what < 30 ? man.saved : man.due;
    }

    int sit() {
        if (sittingFault() != NONE) {
            return NO;
        }
        World next = world.copy();
        int[] told = hold(next.men);
        if (told[2] > 0) {
            return NO;
        }
        world = next.copy();
        pad = "";
        return told[0];
    }

    int matter(int one, int minutes, int behind) {
        if (!isOne(one)) {
            return UNKNOWN;
        }
        int count = world.matters.size();
        if (minutes < 1 || minutes > 60 || behind < 0 || behind > (int) Math.pow(2, count) - 1) {
            return OUTSIDE;
        }
        if (count == 8) {
            return FULL;
        }
        world.matters.add(new int[] {one, minutes, behind});
        return count;
    }

    int about(int matter, int what) {
        if (matter < 0 || matter >= world.matters.size()) {
            return UNKNOWN;
        }
        return what < 0 || what > 2 ? OUTSIDE : world.matters.get(matter)[what];
    }

    int clear() {
        int were = world.matters.size();
        world.matters.clear();
        return were;
    }

    int least(int i) {
        int count = world.matters.size();
        if (i < -1 || i >= count) {
            return NONE;
        }
        int[] best = new int[count + 1];
        best[count] = Integer.MAX_VALUE;
        tryOrders(savedNow(), new int[count], 0, 0, best);
        return i == -1 ? count == 0 ? 0 : best[count] : best[i];
    }

    private int[] savedNow() {
        int[] saved = new int[6];
        for (int one = 0; one < 6; one++) {
            saved[one] = world.men[one].saved;
        }
        return saved;
    }

    /** All orders, the first by numbers first; the best stands with its end behind it. */
    private void tryOrders(int[] saved, int[] order, int n, int said, int[] best) {
        if (n == order.length) {
            int end = endOf(saved, order, best[n]);
            if (end < best[n]) {
                System.arraycopy(order, 0, best, 0, n);
                best[n] = end;
            }
            return;
        }
        for (int matter = 0; matter < order.length; matter++) {
            int behind = world.matters.get(matter)[2];
            if ((said >> matter & 1) == 0 && (behind & said) == behind) {
                order[n] = matter;
                tryOrders(saved, order, n + 1, said | 1 << matter, best);
            }
        }
    }

    /** Minute by minute: a matter begins as soon as its speaker has its minutes. */
    private int endOf(int[] from, int[] order, int limit) {
        int[] saved = from.clone();
        int minute = 0;
        for (int matter : order) {
            int one = world.matters.get(matter)[0];
            int minutes = world.matters.get(matter)[1];
            while (saved[one] < minutes) {
                pass(saved, -1);
                minute++;
            }
            for (int n = 0; n < minutes; n++) {
                pass(saved, one);
                minute++;
            }
            if (minute > limit) {
                return minute;
            }
        }
        return minute;
    }

    private static void pass(int[] saved, int speaker) {
        for (int one = 0; one < 6; one++) {
            saved[one] += one == speaker ? -1 : 1;
        }
    }

    int dealt(int minutes, int one) {
        if (one != -1 && !isOne(one)) {
            return UNKNOWN;
        }
        if (minutes < 0 || minutes > 20) {
            return OUTSIDE;
        }
        List<Integer> holders = new ArrayList<>();
        for (int holder = 0; holder < 6; holder++) {
            for (int[] matter : world.matters) {
                if (matter[0] == holder && !holders.contains(holder)) {
                    holders.add(holder);
                }
            }
        }
        if (holders.isEmpty() || holders.size() > 4) {
            return NO;
        }
        if (one != -1 && !holders.contains(one)) {
            return NONE;
        }
        int[] best = new int[7];
        best[6] = Integer.MAX_VALUE;
        tryDeals(holders, 0, minutes, new int[6], best);
        return best[one == -1 ? 6 : one];
    }

    /** All deals, least for the first one first: the last as good is the one. */
    private void tryDeals(List<Integer> holders, int n, int left, int[] saved, int[] best) {
        if (n == holders.size() - 1) {
            saved[holders.get(n)] = left;
            int count = world.matters.size();
            int[] order = new int[count + 1];
            order[count] = best[6] == Integer.MAX_VALUE ? best[6] : best[6] + 1;
            tryOrders(saved, new int[count], 0, 0, order);
            if (order[count] <= best[6]) {
                System.arraycopy(saved, 0, best, 0, 6);
                best[6] = order[count];
            }
            return;
        }
        for (int gets = 0; gets <= left; gets++) {
            saved[holders.get(n)] = gets;
            tryDeals(holders, n + 1, left - gets, saved, best);
        }
    }

    int lend(int one, int to, int v) {
        if (!isOne(one) || !isOne(to) || one == to) {
            return UNKNOWN;
        }
        if (v < 0 || v > 99) {
            return OUTSIDE;
        }
        int was = world.lent[one][to];
        world.lent[one][to] = v;
        return was;
    }

    int net(int one) {
        if (!isOne(one)) {
            return UNKNOWN;
        }
        int net = 1000;
        for (int other = 0; other < 6; other++) {
            net += world.lent[one][other];
            net -= world.lent[other][one];
        }
        return net;
    }

    int gifts() {
        int[] nets = new int[6];
        for (int one = 0; one < 6; one++) {
            nets[one] = net(one) - 1000;
        }
        return gifts(nets, 0);
    }

    /** The first one that is not clear is cleared by one gift, with any on the other side. */
    private static int gifts(int[] nets, int from) {
        int one = from;
        while (one < 6 && nets[one] == 0) {
            one++;
        }
        if (one == 6) {
            return 0;
        }
        int best = Integer.MAX_VALUE;
        for (int other = one + 1; other < 6; other++) {
            if (nets[one] < 0 && nets[other] > 0 || nets[one] > 0 && nets[other] < 0) {
                nets[other] += nets[one];
                best = Math.min(best, 1 + gifts(nets, one + 1));
                nets[other] -= nets[one];
            }
        }
        return best;
    }

    /** The minute in which it does not hold, from 0 on; the number of minutes, if it holds. */
    private int holdsUpTo(String book) {
        int[] saved = savedNow();
        for (int minute = 0; minute < book.length(); minute++) {
            int speaker = book.charAt(minute) == '.' ? -1 : book.charAt(minute) - 'a';
            if (speaker >= 0 && saved[speaker] < 1) {
                return minute;
            }
            for (int one = 0; one < 6; one++) {
                saved[one] = one == speaker ? saved[one] - 1 : Math.min(999, saved[one] + 1);
            }
        }
        return book.length();
    }

    private List<String> fillings() {
        List<String> all = new ArrayList<>(List.of(""));
        for (char sign : pad.toCharArray()) {
            List<String> longer = new ArrayList<>();
            for (String filling : all) {
                for (char fill : sign == '*' ? "abcdef.".toCharArray() : new char[] {sign}) {
                    longer.add(filling + fill);
                }
            }
            all = longer;
        }
        return all;
    }

    int filled(int i, int k) {
        if (bookFault() != NONE) {
            return NO;
        }
        List<String> ways = new ArrayList<>();
        for (String filling : fillings()) {
            if (holdsUpTo(filling) == filling.length()) {
                ways.add(filling);
            }
        }
        if (i == -1) {
            return ways.size();
        }
        boolean known = i >= 0 && i < ways.size() && k >= 0 && k < pad.length();
        return known ? ways.get(i).charAt(k) : NONE;
    }

    int lie() {
        if (bookFault() != NONE) {
            return NO;
        }
        int furthest = 0;
        for (String filling : fillings()) {
            furthest = Math.max(furthest, holdsUpTo(filling));
        }
        return furthest == pad.length() ? NONE : furthest;
    }

    int floor(int friends) {
        return friends < 0 || friends > 63 ? OUTSIDE : lasts(friends);
    }

    /** Who has most speaks next; what lasts 3000 minutes lasts for ever. */
    private int lasts(int friends) {
        int[] saved = savedNow();
        for (int minute = 0; minute < 3000; minute++) {
            int speaker = -1;
            for (int one = 0; one < 6; one++) {
                boolean more = speaker == -1 ? saved[one] > 0 : saved[one] > saved[speaker];
                speaker = (friends >> one & 1) == 1 && more ? one : speaker;
            }
            if (speaker == -1) {
                return minute;
            }
            for (int one = 0; one < 6; one++) {
                saved[one] = one == speaker ? saved[one] - 1 : Math.min(999, saved[one] + 1);
            }
        }
        return 1000000;
    }

    int friends(int one, int minutes) {
        if (!isOne(one)) {
            return UNKNOWN;
        }
        if (minutes < 0 || minutes > 999) {
            return OUTSIDE;
        }
        for (int size = 1; size <= 6; size++) {
            for (int set = 0; set < 64; set++) {
                if (Integer.bitCount(set) == size && (set >> one & 1) == 1 && lasts(set) >= minutes) {
                    return set;
                }
            }
        }
        return NONE;
    }

    int image(int n) {
        if (n != 0 && n != 1) {
            return OUTSIDE;
        }
        images[n] = world.copy();
        return 1;
    }

    int restore(int n) {
        if (n != 0 && n != 1) {
            return OUTSIDE;
        }
        if (images[n] == null) {
            return STATE;
        }
        world = images[n].copy();
        return 1;
    }

    int told(int what) {
        List<Integer> firsts = Arrays.asList(pad.length(), world.matters.size(), world.cough, world.asked);
        if (what >= 0 && what < 4) {
            return firsts.get(what);
        }
        for (int one = 0; one < 6; one++) {
            Man man = world.men[one];
            if (what == 10 + one) {
                return man.saved;
            }
            if (what == 20 + one) {
                return man.in ? 1 : 0;
            }
            if (what == 30 + one) {
                return man.awake ? 1 : 0;
            }
            if (what == 40 + one) {
                return man.due;
            }
            for (int other = 0; other < 6; other++) {
                if (what == 100 + 6 * one + other) {
                    return world.lent[one][other];
                }
            }
        }
        return OUTSIDE;
    }
}
