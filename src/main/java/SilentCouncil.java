/** A council in which whoever would speak a minute must have been silent a minute. */
public final class SilentCouncil {
    public static final int NONE = -6, UNKNOWN = -1, OUTSIDE = -2, STATE = -3, FULL = -4, NO = -5;

    private static final int ONES = 6, NOBODY = 6;
    private static final int SAVED = 0, IN = 1, AWAKE = 2, DUE = 3, SEAT_ROWS = 4;
    private static final int MOST_SAVED = 999, MOST_LAW = 99, MOST_LENT = 99, NET_SHIFT = 1000;
    private static final int[] MOST_OF_SEAT = {MOST_SAVED, 1, 1, 99};
    private static final int PAD_SIGNS = 40, FIRST_SIGN = 33, LAST_SIGN = 126;
    private static final int MATTERS = 8, MATTER_SETS = 256, MOST_MINUTES = 60;
    private static final int MOST_DEALT = 20, MOST_HOLDERS = 4;
    private static final int BOOK_SIGNS = 12, BOOK_HOLES = 5;
    private static final int IMAGES = 2, ONE_SETS = 64;
    private static final int FOR_EVER = 1000000, BEYOND_ALL = 1000000;

    private final Kept now = new Kept();
    private final Kept[] images = new Kept[IMAGES];
    private final boolean[] imaged = new boolean[IMAGES];
    private final Pad pad = new Pad();
    private final Sitting sitting = new Sitting();
    private final Agenda agenda = new Agenda();
    private final Ledger ledger = new Ledger();
    private final Book book = new Book();

    public SilentCouncil() {
        for (int n = 0; n < IMAGES; n++) {
            images[n] = new Kept();
        }
    }

    public int set(int one, int what, int v) {
        if (!isOne(one)) {
            return UNKNOWN;
        }
        if (what < 0 || what >= SEAT_ROWS || v < 0 || v > MOST_OF_SEAT[what]) {
            return OUTSIDE;
        }
        int was = now.seats[what][one];
        now.seats[what][one] = v;
        return was;
    }

    public int law(int which, int v) {
        if (which < 0 || which > 1 || v < 0 || v > MOST_LAW) {
            return OUTSIDE;
        }
        int was = which == 0 ? now.cough : now.asked;
        if (which == 0) {
            now.cough = v;
        } else {
            now.asked = v;
        }
        return was;
    }

    public int say(int sign) {
        if (sign < FIRST_SIGN || sign > LAST_SIGN) {
            return OUTSIDE;
        }
        return pad.add(sign) ? pad.count : FULL;
    }

    public int wipe() {
        int were = pad.count;
        pad.count = 0;
        return were;
    }

    public int fault(int how) {
        if (how < 0 || how > 1) {
            return OUTSIDE;
        }
        return how == 0 ? pad.sittingFault() : pad.bookFault();
    }

    public int sits(int what) {
        boolean ofAll = what >= 0 && what <= 2;
        boolean ofOne = what >= 10 && what < 40 && isOne(what % 10);
        if (!ofAll && !ofOne) {
            return OUTSIDE;
        }
        if (pad.sittingFault() != NONE) {
            return NO;
        }
        sitting.run(now, pad);
        return ofAll ? sitting.ofAll(what) : sitting.ofOne(what / 10, what % 10);
    }

    public int sit() {
        if (pad.sittingFault() != NONE) {
            return NO;
        }
        sitting.run(now, pad);
        if (sitting.without > 0) {
            return NO;
        }
        copyRows(sitting.seats, now.seats, SEAT_ROWS);
        pad.count = 0;
        return sitting.minutes;
    }

    public int matter(int one, int minutes, int behind) {
        Matters matters = now.matters;
        if (!isOne(one)) {
            return UNKNOWN;
        }
        if (minutes < 1 || minutes > MOST_MINUTES || behind < 0 || behind >= 1 << matters.count) {
            return OUTSIDE;
        }
        return matters.add(one, minutes, behind) ? matters.count - 1 : FULL;
    }

    public int about(int matter, int what) {
        Matters matters = now.matters;
        if (matter < 0 || matter >= matters.count) {
            return UNKNOWN;
        }
        switch (what) {
            case 0:
                return matters.by[matter];
            case 1:
                return matters.minutes[matter];
            case 2:
                return matters.behind[matter];
            default:
                return OUTSIDE;
        }
    }

    public int clear() {
        int were = now.matters.count;
        now.matters.count = 0;
        return were;
    }

    public int least(int i) {
        Matters matters = now.matters;
        if (i < -1 || i >= matters.count) {
            return NONE;
        }
        agenda.prepare(matters);
        agenda.takeShares(now.seats[SAVED]);
        int pause = agenda.leastPause(matters, BEYOND_ALL);
        if (i == -1) {
            return matters.allMinutes() + pause;
        }
        agenda.findOrder(matters, pause);
        return agenda.order[i];
    }

    public int dealt(int minutes, int one) {
        if (one != -1 && !isOne(one)) {
            return UNKNOWN;
        }
        if (minutes < 0 || minutes > MOST_DEALT) {
            return OUTSIDE;
        }
        Matters matters = now.matters;
        agenda.findHolders(matters);
        if (agenda.holders < 1 || agenda.holders > MOST_HOLDERS) {
            return NO;
        }
        if (one != -1 && !matters.has(one)) {
            return NONE;
        }
        agenda.prepare(matters);
        agenda.findBestDeal(matters, minutes);
        return one == -1 ? matters.allMinutes() + agenda.bestPause : agenda.bestShare[one];
    }

    public int lend(int one, int to, int v) {
        if (!isOne(one) || !isOne(to) || one == to) {
            return UNKNOWN;
        }
        if (v < 0 || v > MOST_LENT) {
            return OUTSIDE;
        }
        int was = now.lent[one][to];
        now.lent[one][to] = v;
        return was;
    }

    public int net(int one) {
        return isOne(one) ? netOf(now.lent, one) + NET_SHIFT : UNKNOWN;
    }

    public int gifts() {
        return ledger.fewestGifts(now.lent);
    }

    public int filled(int i, int k) {
        if (pad.bookFault() != NONE) {
            return NO;
        }
        book.open(pad, now.seats[SAVED]);
        if (i == -1) {
            return Book.ways(book, 0, BEYOND_ALL);
        }
        if (i < 0 || k < 0 || k >= book.length || Book.ways(book, 0, i) <= i) {
            return NONE;
        }
        return book.sign(k);
    }

    public int lie() {
        if (pad.bookFault() != NONE) {
            return NO;
        }
        book.open(pad, now.seats[SAVED]);
        return book.firstFalse();
    }

    public int floor(int friends) {
        return friends < 0 || friends >= ONE_SETS ? OUTSIDE : floorOf(friends);
    }

    public int friends(int one, int minutes) {
        if (!isOne(one)) {
            return UNKNOWN;
        }
        if (minutes < 0 || minutes > MOST_SAVED) {
            return OUTSIDE;
        }
        int best = NONE;
        for (int set = 1; set < ONE_SETS; set++) {
            boolean fewer = best == NONE || Integer.bitCount(set) < Integer.bitCount(best);
            if (holds(set, one) && fewer && floorOf(set) >= minutes) {
                best = set;
            }
        }
        return best;
    }

    public int image(int n) {
        if (n < 0 || n >= IMAGES) {
            return OUTSIDE;
        }
        images[n].take(now);
        imaged[n] = true;
        return 1;
    }

    public int restore(int n) {
        if (n < 0 || n >= IMAGES) {
            return OUTSIDE;
        }
        if (!imaged[n]) {
            return STATE;
        }
        now.take(images[n]);
        return 1;
    }

    public int told(int what) {
        if (what >= 100 && what < 100 + ONES * ONES) {
            return now.lent[(what - 100) / ONES][(what - 100) % ONES];
        }
        if (what >= 10 && what < 10 + 10 * SEAT_ROWS && isOne(what % 10)) {
            return now.seats[what / 10 - 1][what % 10];
        }
        switch (what) {
            case 0:
                return pad.count;
            case 1:
                return now.matters.count;
            case 2:
                return now.cough;
            case 3:
                return now.asked;
            default:
                return OUTSIDE;
        }
    }

    /** With a second friend it lasts for ever: what a speaker pays, the silent one saves. */
    private int floorOf(int set) {
        int all = 0;
        for (int one = 0; one < ONES; one++) {
            if (holds(set, one)) {
                all += now.seats[SAVED][one];
            }
        }
        return all == 0 || Integer.bitCount(set) == 1 ? all : FOR_EVER;
    }

    private static boolean isOne(int one) {
        return one >= 0 && one < ONES;
    }

    private static boolean isOneSign(int sign) {
        return isOne(sign - 'a');
    }

    private static boolean holds(int set, int member) {
        return (set >> member & 1) == 1;
    }

    private static int netOf(int[][] lent, int one) {
        int sum = 0;
        for (int other = 0; other < ONES; other++) {
            sum += lent[one][other] - lent[other][one];
        }
        return sum;
    }

    private static void copyRows(int[][] from, int[][] to, int rows) {
        for (int row = 0; row < rows; row++) {
            System.arraycopy(from[row], 0, to[row], 0, ONES);
        }
    }

    /** All that an image keeps. */
    private static final class Kept {
        final int[][] seats = new int[SEAT_ROWS][ONES];
        final int[][] lent = new int[ONES][ONES];
        final Matters matters = new Matters();
        int cough = 5;
        int asked = 2;

        Kept() {
            for (int one = 0; one < ONES; one++) {
                seats[IN][one] = 1;
                seats[AWAKE][one] = 1;
            }
        }

        void take(Kept from) {
            copyRows(from.seats, seats, SEAT_ROWS);
            copyRows(from.lent, lent, ONES);
            matters.take(from.matters);
            cough = from.cough;
            asked = from.asked;
        }
    }

    /** The signs that were said, and where they can not stand. */
    private static final class Pad {
        private static final int HEAD = 0, DIGIT = 1, ONE = 2, ASKER = 3, ASKED = 4, CAN_NOT = -1;

        private final int[] signs = new int[PAD_SIGNS];
        int count = 0;

        boolean add(int sign) {
            if (count < 0 || count >= PAD_SIGNS) {
                return false;
            }
            signs[count] = sign;
            count++;
            return true;
        }

        int sign(int place) {
            return place >= 0 && place < count && place < PAD_SIGNS ? signs[place] : 0;
        }

        int sittingFault() {
            int wanted = HEAD;
            for (int place = 0; place < count; place++) {
                wanted = wantedBehind(wanted, sign(place), sign(place - 1));
                if (wanted == CAN_NOT) {
                    return place;
                }
            }
            return wanted == HEAD ? NONE : count;
        }

        int bookFault() {
            int holes = 0;
            for (int place = 0; place < count; place++) {
                int sign = sign(place);
                holes += sign == '*' ? 1 : 0;
                boolean known = isOneSign(sign) || sign == '.' || sign == '*';
                if (!known || place >= BOOK_SIGNS || holes > BOOK_HOLES) {
                    return place;
                }
            }
            return count == 0 ? 0 : NONE;
        }

        private static int wantedBehind(int wanted, int sign, int before) {
            switch (wanted) {
                case HEAD:
                    return wantedBehindHead(sign);
                case DIGIT:
                    return sign >= '1' && sign <= '9' ? HEAD : CAN_NOT;
                case ONE:
                    return isOneSign(sign) ? HEAD : CAN_NOT;
                case ASKER:
                    return isOneSign(sign) ? ASKED : CAN_NOT;
                default:
                    return isOneSign(sign) && sign != before ? HEAD : CAN_NOT;
            }
        }

        private static int wantedBehindHead(int sign) {
            switch (sign) {
                case 'z':
                case 'y':
                case 'x':
                case 'i':
                case 'k':
                    return ONE;
                case '?':
                    return ASKER;
                case '.':
                    return DIGIT;
                default:
                    return isOneSign(sign) ? DIGIT : CAN_NOT;
            }
        }
    }

    /** A sitting on trial: what the text on the pad would make of the hall. */
    private static final class Sitting {
        final int[][] seats = new int[SEAT_ROWS][ONES];
        private final int[] spoke = new int[ONES];
        int minutes = 0;
        int without = 0;
        private int firstWithout = NONE;

        /** The pad has no fault. */
        void run(Kept from, Pad pad) {
            begin(from);
            for (int place = 0; place < pad.count; place += pad.sign(place) == '?' ? 3 : 2) {
                int head = pad.sign(place);
                int next = pad.sign(place + 1);
                if (head == '.') {
                    last(NOBODY, next - '0');
                } else if (isOneSign(head)) {
                    last(head - 'a', next - '0');
                } else if (head == '?') {
                    ask(next - 'a', pad.sign(place + 2) - 'a', from.asked);
                } else {
                    stir(head, next - 'a', from.cough);
                }
            }
        }

        int ofAll(int what) {
            return what == 0 ? minutes : what == 1 ? firstWithout : without;
        }

        int ofOne(int what, int one) {
            if (!isOne(one)) {
                return NONE;
            }
            return what == 1 ? spoke[one] : seats[what == 2 ? SAVED : DUE][one];
        }

        private void begin(Kept from) {
            copyRows(from.seats, seats, SEAT_ROWS);
            for (int one = 0; one < ONES; one++) {
                spoke[one] = 0;
            }
            minutes = 0;
            without = 0;
            firstWithout = NONE;
        }

        private void ask(int asker, int askedOne, int due) {
            if (listens(asker) && listens(askedOne)) {
                seats[DUE][askedOne] = due;
            }
        }

        private void stir(int how, int one, int cough) {
            if (!isOne(one)) {
                return;
            }
            switch (how) {
                case 'z':
                    seats[AWAKE][one] = 0;
                    break;
                case 'y':
                    seats[AWAKE][one] = 1;
                    break;
                case 'x':
                    seats[IN][one] = 0;
                    seats[SAVED][one] = 0;
                    seats[DUE][one] = 0;
                    break;
                case 'i':
                    seats[IN][one] = 1;
                    seats[AWAKE][one] = 1;
                    break;
                default:
                    if (seats[IN][one] == 1) {
                        seats[SAVED][one] = Math.max(0, seats[SAVED][one] - cough);
                    }
                    break;
            }
        }

        private void last(int speaker, int howLong) {
            for (int n = 0; n < howLong; n++) {
                speak(speaker);
                for (int one = 0; one < ONES; one++) {
                    if (one != speaker && listens(one)) {
                        seats[SAVED][one] = Math.min(MOST_SAVED, seats[SAVED][one] + 1);
                    }
                }
                minutes++;
            }
        }

        private void speak(int speaker) {
            if (!isOne(speaker)) {
                return;
            }
            spoke[speaker]++;
            if (pay(speaker)) {
                return;
            }
            if (without == 0) {
                firstWithout = minutes;
            }
            without++;
        }

        /** False, with nothing changed, when the minute is without. */
        private boolean pay(int speaker) {
            if (!listens(speaker)) {
                return false;
            }
            int due = seats[DUE][speaker];
            int price = due > 0 && (due - 1) % 2 == 0 ? 0 : 1;
            if (seats[SAVED][speaker] < price) {
                return false;
            }
            seats[SAVED][speaker] -= price;
            seats[DUE][speaker] = Math.max(0, due - 1);
            return true;
        }

        private boolean listens(int one) {
            return isOne(one) && seats[IN][one] == 1 && seats[AWAKE][one] == 1;
        }
    }

    /** What must be said. */
    private static final class Matters {
        final int[] by = new int[MATTERS];
        final int[] minutes = new int[MATTERS];
        final int[] behind = new int[MATTERS];
        int count = 0;

        boolean add(int one, int howLong, int others) {
            if (count < 0 || count >= MATTERS) {
                return false;
            }
            by[count] = one;
            minutes[count] = howLong;
            behind[count] = others;
            count++;
            return true;
        }

        boolean has(int one) {
            for (int matter = 0; matter < count; matter++) {
                if (by[matter] == one) {
                    return true;
                }
            }
            return false;
        }

        int allMinutes() {
            int sum = 0;
            for (int matter = 0; matter < count; matter++) {
                sum += minutes[matter];
            }
            return sum;
        }

        /** Whether it can be said next, when just these have been said. */
        boolean isNext(int matter, int said) {
            return !holds(said, matter) && (behind[matter] & ~said) == 0;
        }

        void take(Matters from) {
            System.arraycopy(from.by, 0, by, 0, MATTERS);
            System.arraycopy(from.minutes, 0, minutes, 0, MATTERS);
            System.arraycopy(from.behind, 0, behind, 0, MATTERS);
            count = from.count;
        }
    }

    /**
     * Orders of the matters. All save in a pause, so a pause does most good before
     * the first matter: each order ends soonest with all its pauses there, and the
     * least sitting is all matters' minutes and the least such pause.
     */
    private static final class Agenda {
        final int[] order = new int[MATTERS];
        final int[] bestShare = new int[ONES];
        int bestPause = BEYOND_ALL;
        int holders = 0;
        private final int[] holder = new int[ONES];
        private final int[] share = new int[ONES];
        private final int[] needs = new int[MATTER_SETS * MATTERS];
        private final int[] pauses = new int[MATTER_SETS];
        private final boolean[] canEnd = new boolean[MATTER_SETS];
        private int full = 0;

        /** What a matter's speaker must have at minute 0 to need no pause, for each set said before. */
        void prepare(Matters matters) {
            full = (1 << matters.count) - 1;
            System.arraycopy(matters.minutes, 0, needs, 0, MATTERS);
            for (int last = 0; last < matters.count; last++) {
                for (int others = 0; others < 1 << last; others++) {
                    needBehind(matters, others, last);
                }
            }
        }

        /** What its speaker spoke before is paid, what another one spoke is saved. */
        private void needBehind(Matters matters, int others, int last) {
            int said = others | 1 << last;
            int minutes = matters.minutes[last];
            for (int matter = 0; matter < matters.count; matter++) {
                int more = matters.by[last] == matters.by[matter] ? minutes : -minutes;
                needs[said * MATTERS + matter] = needs[others * MATTERS + matter] + more;
            }
        }

        void takeShares(int[] saved) {
            System.arraycopy(saved, 0, share, 0, ONES);
        }

        void findHolders(Matters matters) {
            holders = 0;
            for (int one = 0; one < ONES; one++) {
                if (matters.has(one)) {
                    holder[holders] = one;
                    holders++;
                }
            }
        }

        /** The least pause before all matters, with these shares; the limit if none is less. */
        int leastPause(Matters matters, int limit) {
            for (int said = 1; said <= full; said++) {
                pauses[said] = limit;
            }
            pauses[0] = 0;
            for (int said = 0; said < full; said++) {
                if (pauses[said] < limit) {
                    lengthen(matters, said);
                }
            }
            return pauses[full];
        }

        private void lengthen(Matters matters, int said) {
            for (int next = 0; next < matters.count; next++) {
                if (matters.isNext(next, said)) {
                    int longer = said | 1 << next;
                    int pause = Math.max(pauses[said], lack(matters, said, next));
                    pauses[longer] = Math.min(pauses[longer], pause);
                }
            }
        }

        /** The first order, by numbers, for which this pause is enough. */
        void findOrder(Matters matters, int pause) {
            canEnd[full] = true;
            for (int said = full - 1; said >= 0; said--) {
                canEnd[said] = findNext(matters, said, pause) < matters.count;
            }
            int said = 0;
            for (int n = 0; n < matters.count; n++) {
                int next = findNext(matters, said, pause);
                if (next >= matters.count) {
                    return;
                }
                order[n] = next;
                said |= 1 << next;
            }
        }

        void findBestDeal(Matters matters, int minutes) {
            bestPause = BEYOND_ALL;
            deal(this, matters, 0, minutes);
        }

        /**
         * Deals are tried with most for the first holder first, so of deals as good
         * the first that is found stays. With what is left given to each holder behind,
         * the pause can only be too little: where that is no better, no such deal is.
         */
        private static void deal(Agenda agenda, Matters matters, int place, int left) {
            if (place < 0 || place >= agenda.holders || place >= MOST_HOLDERS) {
                return;
            }
            boolean isLast = place == agenda.holders - 1;
            for (int gets = left; gets >= (isLast ? left : 0); gets--) {
                agenda.share[agenda.holder[place]] = gets;
                for (int other = place + 1; other < agenda.holders; other++) {
                    agenda.share[agenda.holder[other]] = left - gets;
                }
                int pause = agenda.leastPause(matters, agenda.bestPause);
                if (pause >= agenda.bestPause) {
                    continue;
                }
                if (isLast) {
                    agenda.bestPause = pause;
                    System.arraycopy(agenda.share, 0, agenda.bestShare, 0, ONES);
                } else {
                    deal(agenda, matters, place + 1, left - gets);
                }
            }
        }

        /** The first matter behind these from which all can end; their number if none is. */
        private int findNext(Matters matters, int said, int pause) {
            for (int matter = 0; matter < matters.count; matter++) {
                if (matters.isNext(matter, said) && lack(matters, said, matter) <= pause
                        && canEnd[said | 1 << matter]) {
                    return matter;
                }
            }
            return matters.count;
        }

        private int lack(Matters matters, int said, int matter) {
            return needs[said * MATTERS + matter] - share[matters.by[matter]];
        }
    }

    /** Who owes whom, and how it is cleared. */
    private static final class Ledger {
        private final int[] sums = new int[ONE_SETS];
        private final int[] groups = new int[ONE_SETS];

        /** A group whose nets are 0 together is cleared by one gift fewer than it has ones. */
        int fewestGifts(int[][] lent) {
            for (int last = 0; last < ONES; last++) {
                int net = netOf(lent, last);
                for (int others = 0; others < 1 << last; others++) {
                    int set = others | 1 << last;
                    sums[set] = sums[others] + net;
                    groups[set] = mostGroups(set) + (sums[set] == 0 ? 1 : 0);
                }
            }
            return ONES - groups[ONE_SETS - 1];
        }

        private int mostGroups(int set) {
            int most = 0;
            for (int one = 0; one < ONES; one++) {
                if (holds(set, one)) {
                    most = Math.max(most, groups[set & ~(1 << one)]);
                }
            }
            return most;
        }
    }

    /** A book of minutes whose holes are filled. */
    private static final class Book {
        private static final int HOLE = 7;

        final int[] filling = new int[BOOK_SIGNS];
        int length = 0;
        private final int[] lines = new int[BOOK_SIGNS];
        private final int[] saved = new int[ONES];
        private final int[] spoke = new int[ONES];

        /** The pad has no fault as a book. */
        void open(Pad pad, int[] from) {
            length = Math.min(pad.count, BOOK_SIGNS);
            for (int minute = 0; minute < length; minute++) {
                lines[minute] = line(pad.sign(minute));
            }
            System.arraycopy(from, 0, saved, 0, ONES);
            for (int one = 0; one < ONES; one++) {
                spoke[one] = 0;
            }
        }

        int sign(int minute) {
            int who = filling[minute];
            return isOne(who) ? 'a' + who : '.';
        }

        /** How many ways from this minute on; it stops at the wanted one, which is the filling then. */
        private static int ways(Book book, int minute, int wanted) {
            if (minute < 0 || minute >= book.length) {
                return 1;
            }
            int line = book.lines[minute];
            int first = line == HOLE ? 0 : line;
            int last = line == HOLE ? NOBODY : line;
            int found = 0;
            for (int who = first; who <= last && found <= wanted; who++) {
                if (book.canSpeak(minute, who)) {
                    book.filling[minute] = who;
                    book.count(who, 1);
                    found += ways(book, minute + 1, wanted - found);
                    book.count(who, -1);
                }
            }
            return found;
        }

        /** All save by a hole that nobody fills, so no way holds longer than that one. */
        int firstFalse() {
            for (int minute = 0; minute < length; minute++) {
                if (!canSpeak(minute, lines[minute])) {
                    return minute;
                }
                count(lines[minute], 1);
            }
            return NONE;
        }

        private static int line(int sign) {
            if (sign == '*') {
                return HOLE;
            }
            return isOneSign(sign) ? sign - 'a' : NOBODY;
        }

        /** Each minute before is saved, but for those spoken, which are paid. */
        private boolean canSpeak(int minute, int who) {
            return !isOne(who) || saved[who] + minute - 2 * spoke[who] > 0;
        }

        private void count(int who, int more) {
            if (isOne(who)) {
                spoke[who] += more;
            }
        }
    }
}
