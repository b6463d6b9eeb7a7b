/** What the tests share: it prints each answer that is not the one that is due. */
final class Due {
    private static int wrong = 0;
    private static int asked = 0;
    private static String part = "";

    private Due() {
    }

    static void part(String name) {
        part = name;
    }

    static void is(String call, long got, long want) {
        asked++;
        if (got != want) {
            wrong++;
            if (wrong <= 50) {
                System.out.println(part + ": " + call + " answered " + got + ", due is " + want);
            }
        }
    }

    static void holds(String what, boolean so) {
        is(what, so ? 1 : 0, 1);
    }

    /** Puts a text on the pad, in place of what is there. */
    static void write(Council x, String text) {
        x.wipe();
        for (int i = 0; i < text.length(); i++) {
            is("say " + text.charAt(i), x.say(text.charAt(i)), i + 1);
        }
    }

    static void saved(Council x, int... minutes) {
        for (int one = 0; one < minutes.length; one++) {
            x.set(one, 0, minutes[one]);
        }
    }

    /** All that told tells of, and about, as one text. */
    static String all(Council x) {
        StringBuilder all = new StringBuilder();
        for (int what = 0; what < 4; what++) {
            all.append(x.told(what)).append(what < 3 ? ' ' : '|');
        }
        for (int what = 10; what < 50; what++) {
            if (what % 10 < 6) {
                all.append(x.told(what)).append(what % 10 < 5 ? ' ' : '|');
            }
        }
        for (int what = 100; what < 136; what++) {
            all.append(x.told(what)).append(' ');
        }
        int matters = x.told(1);
        for (int matter = 0; matter < matters; matter++) {
            for (int what = 0; what < 3; what++) {
                all.append(what == 0 ? '|' : ' ').append(x.about(matter, what));
            }
        }
        return all.toString();
    }

    static void end(String test) {
        System.out.println(test + ": " + asked + " answers, " + wrong + " not as due");
        if (wrong != 0) {
            System.exit(1);
        }
    }
}
