/**
 * A council of which no more is asked than the document promises: 512 calls. What later
 * calls answer is free, so a test that goes on beyond them is wrong itself.
 */
final class Council {
    static final int MOST_CALLS = 512;

    private final SilentCouncil council = new SilentCouncil();
    private final int most;
    private int calls = 0;

    Council() {
        this(MOST_CALLS);
    }

    /** For what LANGUAGE.md says of any state: its later answers are free, but they are answers. */
    Council(int most) {
        this.most = most;
    }

    int left() {
        return most - calls;
    }

    private SilentCouncil next() {
        if (calls == most) {
            throw new IllegalStateException("the test asks more than " + most + " calls");
        }
        calls++;
        return council;
    }

    int set(int one, int what, int v) {
        return next().set(one, what, v);
    }

    int law(int which, int v) {
        return next().law(which, v);
    }

    int say(int sign) {
        return next().say(sign);
    }

    int wipe() {
        return next().wipe();
    }

    int fault(int how) {
        return next().fault(how);
    }

    int sits(int what) {
        return next().sits(what);
    }

    int sit() {
        return next().sit();
    }

    int matter(int one, int minutes, int behind) {
        return next().matter(one, minutes, behind);
    }

    int about(int matter, int what) {
        return next().about(matter, what);
    }

    int clear() {
        return next().clear();
    }

    int least(int i) {
        return next().least(i);
    }

    int dealt(int minutes, int one) {
        return next().dealt(minutes, one);
    }

    int lend(int one, int to, int v) {
        return next().lend(one, to, v);
    }

    int net(int one) {
        return next().net(one);
    }

    int gifts() {
        return next().gifts();
    }

    int filled(int i, int k) {
        return next().filled(i, k);
    }

    int lie() {
        return next().lie();
    }

    int floor(int friends) {
        return next().floor(friends);
    }

    int friends(int one, int minutes) {
        return next().friends(one, minutes);
    }

    int image(int n) {
        return next().image(n);
    }

    int restore(int n) {
        return next().restore(n);
    }

    int told(int what) {
        return next().told(what);
    }
}
