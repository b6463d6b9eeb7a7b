/** What the tests share: it prints each answer that is not the one that is due. */
final class Due {
    private static int wrong = 0;
    private static int asked = 0;
    private static String part = "";

    private Due() {
    }

    static void part(String name) {
        part = name;
    }

    static void is(String call, long got, long want) {
        asked++;
        if (got != want) {
            wrong++;
            if (wrong <= 50) {
                System.out.println(part + ": " + call + " answered " + got + ", due is " + want);
            }
        }
    }

    static void holds(String what, boolean so) {
        is(what, so ? 1 : 0, 1);
    }

    /** Puts a text on the pad, in place of what is there. */
    static void write(SilentCouncil x, String text) {
        x.wipe();
        for (int i = 0; i < text.length(); i++) {
            is("say " + text.charAt(i), x.say(text.charAt(i)), i + 1);
        }
    }

    static void saved(SilentCouncil x, int... minutes) {
        for (int one = 0; one < minutes.length; one++) {
            x.set(one, 0, minutes[one]);
        }
    }

    /** All that told tells of, as one text. */
    static String all(SilentCouncil x) {
        StringBuilder all = new StringBuilder();
        for (int what = 0; what < 136; what++) {
            int told = x.told(what);
            if (told != SilentCouncil.OUTSIDE) {
                all.append(what).append('=').append(told).append(' ');
            }
        }
        for (int matter = 0; matter < x.told(1); matter++) {
            for (int what = 0; what < 3; what++) {
                all.append(x.about(matter, what)).append(',');
            }
        }
        return all.toString();
    }

    static void end(String test) {
        System.out.println(test + ": " + asked + " answers, " + wrong + " not as due");
        if (wrong != 0) {
            System.exit(1);
        }
    }
}
