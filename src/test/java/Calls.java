import java.io.IOException;
import java.nio.file.Files;
import java.nio.file.Path;

/** What the tests share: texts fed to a meadow, and answers held against those that are due. */
final class Calls {
    private static final Path DOCUMENT = Path.of("../shared/DOC.md");
    private static int wrong = 0;
    private static int looked = 0;
    private static String sentence = "";
    private static String document = null;

    private Calls() {
    }

    /** Names the words of the document that ask for the answers from here on; they must stand there. */
    static void by(String words) {
        sentence = "by '" + words + "': ";
        looked++;
        if (!isInDocument(words)) {
            wrong++;
            System.out.println("the document does not say: " + words);
        }
    }

    /** Where the document can't be read, its words are taken on trust: the answers are looked at all the same. */
    private static boolean isInDocument(String words) {
        if (document == null) {
            try {
                document = Files.readString(DOCUMENT);
            } catch (IOException e) {
                return true;
            }
        }
        return document.contains(words);
    }

    static void due(String call, long got, long want) {
        looked++;
        if (got != want) {
            wrong++;
            if (wrong <= 40) {
                System.out.println(sentence + call + " answered " + got + ", due is " + want);
            }
        }
    }

    static void due(String call, boolean got, boolean want) {
        due(call, got ? 1L : 0L, want ? 1L : 0L);
    }

    static int wrongSoFar() {
        return wrong;
    }

    /** Puts a text on the tape, twenty bytes a call, and cuts what is too much. */
    static void feed(MeadowSigns x, String text) {
        StringBuilder padded = new StringBuilder(text);
        while (padded.length() % 20 != 0) {
            padded.append(' ');
        }
        for (int at = 0; at < padded.length(); at += 20) {
            x.feed(four(padded, at), four(padded, at + 4), four(padded, at + 8),
                four(padded, at + 12), four(padded, at + 16));
        }
        x.end(text.length());
    }

    private static int four(CharSequence text, int at) {
        int number = 0;
        for (int i = 0; i < 4; i++) {
            number = number << 8 | text.charAt(at + i) & 255;
        }
        return number;
    }

    static MeadowSigns told(String text) {
        MeadowSigns x = new MeadowSigns();
        feed(x, text);
        if (x.meadow() < 0) {
            due("fault " + x.fault(0) + " at " + x.fault(1) + " in " + text, 1, 0);
        }
        return x;
    }

    static void mow(MeadowSigns x, int... cells) {
        for (int cell : cells) {
            x.mow(cell);
        }
    }

    /** A text that has a fault; a ^ stands ahead of its place. */
    static void fault(int want, String marked) {
        int place = marked.indexOf('^');
        String text = marked.substring(0, place) + marked.substring(place + 1);
        MeadowSigns x = new MeadowSigns();
        feed(x, text);
        due("meadow() of " + marked, x.meadow(), -1);
        due("fault(0) of " + marked, x.fault(0), want);
        due("fault(1) of " + marked, x.fault(1), place);
    }

    /** A text without a fault, of so many signs. */
    static void fine(String text, int signs) {
        MeadowSigns x = new MeadowSigns();
        feed(x, text);
        due("meadow() of " + text, x.meadow(), signs);
        due("fault(0) of " + text, x.fault(0), 0);
        due("fault(1) of " + text, x.fault(1), -1);
    }

    /** What lies there, as one text. */
    static String lying(MeadowSigns x) {
        StringBuilder all = new StringBuilder();
        for (int i = 0; i < x.about(14); i++) {
            all.append(i == 0 ? "" : " ").append(x.lies(i));
        }
        return all.toString();
    }

    static void lies(String call, MeadowSigns x, String want) {
        String got = lying(x);
        looked++;
        if (!got.equals(want)) {
            wrong++;
            System.out.println(sentence + call + ": there lies [" + got + "], due is [" + want + "]");
        }
    }

    static void finish() {
        System.out.println(wrong == 0 ? looked + " answers are as due" : wrong + " of " + looked + " answers are not as due");
        if (wrong != 0) {
            System.exit(1);
        }
    }
}
