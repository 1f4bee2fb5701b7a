import java.io.IOException;
import java.nio.file.Files;
import java.nio.file.Path;
import java.util.regex.Matcher;
import java.util.regex.Pattern;

/** Does what README.md shows: each call of its example answers what is written behind it, and its text has no fault. */
public final class ReadmeTest {
    private static final Pattern CALL = Pattern.compile("x\\.(\\w+)\\(([^)]*)\\); *// (-?\\d+)\\b.*");

    private ReadmeTest() {
    }

    public static void main(String[] args) throws IOException {
        String page = Files.readString(Path.of("README.md"));
        example(block(page, "```java\n"));
        text(block(page, "```text\n"));
        calls(page);
        Calls.finish();
    }

    private static String block(String page, String head) {
        int from = page.indexOf(head) + head.length();
        return page.substring(from, page.indexOf("```", from));
    }

    private static void example(String code) {
        MeadowSigns x = new MeadowSigns();
        int answers = 0;
        for (String line : code.split("\n")) {
            Matcher m = CALL.matcher(line);
            if (m.matches()) {
                answers++;
                Calls.due(line, call(x, m.group(1), m.group(2)), Integer.parseInt(m.group(3)));
            }
        }
        Calls.due("lines with an answer", answers, code.split("\n").length - 1);
    }

    private static int call(MeadowSigns x, String name, String arguments) {
        String[] parts = arguments.isEmpty() ? new String[0] : arguments.split(", ");
        int[] n = new int[5];
        for (int i = 0; i < parts.length; i++) {
            n[i] = Integer.decode(parts[i]);
        }
        switch (name) {
            case "feed": return x.feed(n[0], n[1], n[2], n[3], n[4]);
            case "end": return x.end(n[0]);
            case "meadow": return x.meadow();
            case "mow": return x.mow(n[0]);
            case "readings": return x.readings();
            case "taken": return x.taken();
            case "lies": return x.lies(n[0]);
            case "year": return x.year();
            case "thing": return x.thing(n[0]);
            case "turn": return x.turn(n[0], n[1]);
            default: return -12345;
        }
    }

    /** The words behind the ; of each line are no part of the text. */
    private static void text(String shown) {
        MeadowSigns x = Calls.told(shown.replaceAll(";.*", ";"));
        Calls.due("signs", x.about(0), 3);
        Calls.due("things", x.about(1), 2);
        Calls.due("size", x.about(2), 16);
        Calls.due("barns", x.about(4), 32);
        Calls.due("nevers", x.about(5), 1);
        Calls.due("SEED", x.about(7), 7);
        Calls.due("units", x.about(13), 7);
    }

    /** Each call of the face is named on the page. */
    private static void calls(String page) {
        for (java.lang.reflect.Method m : MeadowSigns.class.getDeclaredMethods()) {
            if (java.lang.reflect.Modifier.isPublic(m.getModifiers())) {
                Calls.due("README.md names " + m.getName(), page.contains("`" + m.getName() + "`"), true);
            }
        }
    }
}
