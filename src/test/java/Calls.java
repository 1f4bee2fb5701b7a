/** What the tests share: texts fed to a meadow, and answers held against those that are due. */
final class Calls {
    private static int wrong = 0;
    private static int looked = 0;

    private Calls() {
    }

    static void due(String call, long got, long want) {
        looked++;
        if (got != want) {
            wrong++;
            if (wrong <= 40) {
                System.out.println(call + " answered " + got + ", due is " + want);
            }
        }
    }

    static void due(String call, boolean got, boolean want) {
        due(call, got ? 1L : 0L, want ? 1L : 0L);
    }

    static int wrongSoFar() {
        return wrong;
    }

    /** Puts a text on the tape, twenty bytes a call, and cuts what is too much. */
    static void feed(MeadowSigns x, String text) {
        StringBuilder padded = new StringBuilder(text);
        while (padded.length() % 20 != 0) {
            padded.append(' ');
        }
        for (int at = 0; at < padded.length(); at += 20) {
            x.feed(four(padded, at), four(padded, at + 4), four(padded, at + 8),
                four(padded, at + 12), four(padded, at + 16));
        }
        x.end(text.length());
    }

    private static int four(CharSequence text, int at) {
        int number = 0;
        for (int i = 0; i < 4; i++) {
            number = number << 8 | text.charAt(at + i) & 255;
        }
        return number;
    }

    static MeadowSigns told(String text) {
        MeadowSigns x = new MeadowSigns();
        feed(x, text);
        if (x.meadow() < 0) {
            due("fault " + x.fault(0) + " at " + x.fault(1) + " in " + text, 1, 0);
        }
        return x;
    }

    /** What lies there, as one text. */
    static String lying(MeadowSigns x) {
        StringBuilder all = new StringBuilder();
        for (int i = 0; i < x.about(14); i++) {
            all.append(i == 0 ? "" : " ").append(x.lies(i));
        }
        return all.toString();
    }

    static void lies(String call, MeadowSigns x, String want) {
        String got = lying(x);
        looked++;
        if (!got.equals(want)) {
            wrong++;
            System.out.println(call + ": there lies [" + got + "], due is [" + want + "]");
        }
    }

    static void finish() {
        System.out.println(wrong == 0 ? looked + " answers are as due" : wrong + " of " + looked + " answers are not as due");
        if (wrong != 0) {
            System.exit(1);
        }
    }
}
