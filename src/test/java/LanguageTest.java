import java.io.IOException;
import java.lang.reflect.Field;
import java.lang.reflect.Method;
import java.lang.reflect.Modifier;
import java.nio.file.Files;
import java.nio.file.Path;
import java.util.ArrayList;
import java.util.List;
import java.util.Set;
import java.util.TreeSet;
import java.util.regex.Matcher;
import java.util.regex.Pattern;

/** Holds the program against those rules of ../shared/LANGUAGE.md that can be seen from outside. */
public final class LanguageTest {
    private static final Set<String> FACE = new TreeSet<>(List.of(
        "int feed(int,int,int,int,int)", "int end(int)", "int meadow()", "int fault(int)", "int thing(int)",
        "int glyph(int,int)", "int plot(int,int)", "int mow(int)", "int sow(int)", "int year()", "boolean undo()",
        "boolean redo()", "int readings()", "int taken()", "int weight()", "int does(int)", "int will(int,int)",
        "int field(int)", "int harm()", "int turn(int,int)", "int plain()", "int orders(int)",
        "int write(int,int,int)", "int watch()", "int cows(int,int)", "int duel(int,int,int,int)", "int lies(int)",
        "int heard(int,int,int,boolean)", "boolean untell(int)", "int later(int)", "int fit(int)",
        "int sure(int,int,int)", "int ask(int,int)", "int image(int)", "int back(int)", "int about(int)"));

    private LanguageTest() {
    }

    public static void main(String[] args) throws IOException {
        face();
        classes();
        String source = Files.readString(Path.of("src/main/java/MeadowSigns.java"));
        words(source);
        methods(source);
        Calls.finish();
    }

    private static void bad(String what, boolean is) {
        Calls.due(what, is, false);
    }

    private static void face() {
        Class<?> c = MeadowSigns.class;
        bad("the class is not public and final", !Modifier.isPublic(c.getModifiers()) || !Modifier.isFinal(c.getModifiers()));
        Set<String> seen = new TreeSet<>();
        for (Method m : c.getDeclaredMethods()) {
            if (!Modifier.isPrivate(m.getModifiers())) {
                StringBuilder s = new StringBuilder(m.getReturnType() + " " + m.getName() + "(");
                for (Class<?> p : m.getParameterTypes()) {
                    s.append(s.charAt(s.length() - 1) == '(' ? "" : ",").append(p);
                }
                seen.add(s + ")");
                bad("not public: " + m, !Modifier.isPublic(m.getModifiers()));
            }
        }
        bad("the face is " + seen, !seen.equals(FACE));
        for (Field f : c.getDeclaredFields()) {
            bad("seen from outside: " + f, !Modifier.isPrivate(f.getModifiers()) && !f.getName().equals("NONE"));
        }
        bad("constructors", c.getDeclaredConstructors().length != 1);
    }

    private static void classes() {
        Set<String> names = new TreeSet<>();
        for (Method m : MeadowSigns.class.getDeclaredMethods()) {
            if (Modifier.isPublic(m.getModifiers())) {
                names.add(m.getName());
            }
        }
        List<Class<?>> all = new ArrayList<>(List.of(MeadowSigns.class.getDeclaredClasses()));
        bad("too many classes", all.size() + 1 > 12);
        all.add(MeadowSigns.class);
        for (Class<?> c : all) {
            bad("not static: " + c, c != MeadowSigns.class && !Modifier.isStatic(c.getModifiers()));
            int fields = 0;
            for (Field f : c.getDeclaredFields()) {
                boolean constant = Modifier.isStatic(f.getModifiers());
                bad("static, but not final: " + f, constant && !Modifier.isFinal(f.getModifiers()));
                fields += constant ? 0 : 1;
            }
            bad("too many fields: " + c, fields > 20);
            for (Method m : c.getDeclaredMethods()) {
                bad("too many parameters: " + m, m.getParameterCount() > 7);
                bad("has a name of the face: " + m, names.contains(m.getName()) && !Modifier.isPublic(m.getModifiers()));
            }
        }
    }

    private static void words(String source) {
        for (int i = 0; i < source.length(); i++) {
            bad("a sign beyond 127 at " + i, source.charAt(i) > 126);
        }
        String code = source.replaceAll("(?s)/\\*.*?\\*/", " ").replaceAll("//[^\n]*", " ").replaceAll("\"[^\"]*\"", "\"\"");
        String[] forbidden = {"throw", "throws", "try", "catch", "finally", "synchronized", "assert", "import", "package",
            "native", "volatile", "transient", "protected", "float", "double", "Object", "Thread"};
        for (String word : forbidden) {
            bad("the word " + word, Pattern.compile("\\b" + word + "\\b").matcher(code).find());
        }
        bad("a lambda", code.contains("->"));
        bad("a method reference", code.contains("::"));
        bad("joining texts by +", code.contains("\"\" +") || code.contains("+ \"\""));
        Matcher library = Pattern.compile("\\b(Math|Integer|Long|System|Arrays)\\.(\\w+)").matcher(code);
        Set<String> allowed = Set.of("Math.max", "Math.min", "Integer.bitCount", "System.arraycopy");
        while (library.find()) {
            bad("not in the library: " + library.group(), !allowed.contains(library.group()));
        }
    }

    /** Methods stay under some sixty lines. */
    private static void methods(String source) {
        String[] lines = source.split("\n");
        Pattern head = Pattern.compile("^( {4}| {8})(public|private|static|final|int|boolean|void|long)\\b.*\\(.*\\) \\{$");
        for (int i = 0; i < lines.length; i++) {
            Matcher m = head.matcher(lines[i]);
            if (m.matches()) {
                int end = i;
                while (end < lines.length && !lines[end].equals(m.group(1) + "}")) {
                    end++;
                }
                bad("a long method: " + lines[i], end - i > 60);
            }
            bad("a long line: " + lines[i], lines[i].length() > 120);
        }
    }
}
