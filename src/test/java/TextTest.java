import java.util.ArrayList;
import java.util.HashSet;
import java.util.List;
import java.util.Random;
import java.util.Set;

/** Texts with small changes, good and bad ones, held against a second parser of the document's grammar. */
public final class TextTest {
    private static final int TEXTS = 40000;

    private TextTest() {
    }

    private static final class Fault extends RuntimeException {
        private static final long serialVersionUID = 1L;
        final int kind;
        final int place;

        Fault(int kind, int place) {
            this.kind = kind;
            this.place = place;
        }
    }

    private static final class Token {
        final String text;
        final int place;
        final boolean good;

        Token(String text, int place, boolean good) {
            this.text = text;
            this.place = place;
            this.good = good;
        }

        boolean word() {
            return good && !text.isEmpty() && Character.isLetter(text.charAt(0));
        }

        boolean number() {
            return good && !text.isEmpty() && Character.isDigit(text.charAt(0));
        }
    }

    private static final Set<String> RESERVED = Set.of("size", "thing", "at", "sign", "does", "never", "barn", "weigh",
        "grow", "draw", "or", "and", "not", "long", "place", "year", "much", "age", "dry");

    private static List<Token> tokens(String text) {
        List<Token> out = new ArrayList<>();
        int i = 0;
        while (i < text.length()) {
            char c = text.charAt(i);
            int j = i + 1;
            if (c == ' ' || c == '\n') {
                i++;
                continue;
            }
            boolean good;
            if (c >= 'a' && c <= 'z') {
                while (j < text.length() && text.charAt(j) >= 'a' && text.charAt(j) <= 'z') {
                    j++;
                }
                good = j - i <= 8;
            } else if (c >= '0' && c <= '9') {
                while (j < text.length() && text.charAt(j) >= '0' && text.charAt(j) <= '9') {
                    j++;
                }
                good = j - i <= 4 && !(j < text.length() && text.charAt(j) >= 'a' && text.charAt(j) <= 'z');
            } else {
                good = ";()<>=+-*/%".indexOf(c) >= 0;
            }
            out.add(new Token(text.substring(i, j), i, good));
            i = j;
        }
        out.add(new Token("", text.length(), true));
        return out;
    }

    /** The document's grammar, line by line; answers how many signs there are. */
    private static final class Second {
        final List<Token> all;
        int at = 0;
        int units = 0;

        Second(String text) {
            all = tokens(text);
        }

        Token now() {
            Token t = all.get(at);
            if (!t.good) {
                throw new Fault(1, t.place);
            }
            return t;
        }

        Token must(boolean stands) {
            Token t = now();
            if (!stands) {
                throw new Fault(2, t.place);
            }
            at++;
            return t;
        }

        void must(String text) {
            must(now().text.equals(text));
        }

        int number(int least, int most) {
            Token t = must(now().number());
            int n = Integer.parseInt(t.text);
            if (n < least || n > most) {
                throw new Fault(4, t.place);
            }
            return n;
        }

        Token name() {
            return must(now().word() && !RESERVED.contains(now().text));
        }

        int known(List<String> names) {
            Token t = name();
            if (!names.contains(t.text)) {
                throw new Fault(5, t.place);
            }
            return names.indexOf(t.text);
        }

        String unknown(List<String> names) {
            Token t = name();
            if (names.contains(t.text)) {
                throw new Fault(3, t.place);
            }
            return t.text;
        }

        int text() {
            int size = 12;
            List<String> things = new ArrayList<>();
            List<String> signs = new ArrayList<>();
            Set<String> nevers = new HashSet<>();
            Set<Integer> barns = new HashSet<>();
            Set<String> once = new HashSet<>();
            for (int line = 0; !now().text.isEmpty() || !now().good; line++) {
                String first = now().text;
                switch (first) {
                    case "size":
                        must(line == 0);
                        size = number(4, 20);
                        break;
                    case "thing": {
                        must(things.size() < 4);
                        String n = unknown(things);
                        must("at");
                        number(0, 99);
                        things.add(n);
                        break;
                    }
                    case "sign": {
                        must(signs.size() < 8);
                        String n = unknown(signs);
                        Token shape = must(now().word());
                        if (!shape.text.matches("m|m[mo]{0,4}m")) {
                            throw new Fault(4, shape.place);
                        }
                        must("does");
                        known(things);
                        Token v = now();
                        if (v.text.equals("-")) {
                            at++;
                        }
                        Token digits = must(now().number());
                        if (Integer.parseInt(digits.text) > 9) {
                            throw new Fault(4, v.place);
                        }
                        signs.add(n);
                        break;
                    }
                    case "never": {
                        must(nevers.size() < 10);
                        int a = known(signs);
                        int place = now().place;
                        int b = known(signs);
                        if (!nevers.add(a + " " + b)) {
                            throw new Fault(3, place);
                        }
                        break;
                    }
                    case "barn": {
                        must(barns.size() < 4);
                        int place = now().place;
                        if (!barns.add(number(0, size - 1))) {
                            throw new Fault(3, place);
                        }
                        break;
                    }
                    case "weigh":
                    case "grow":
                        must(once.add(first));
                        units = 0;
                        e(0);
                        break;
                    case "draw":
                        must(once.add(first));
                        number(0, 999);
                        break;
                    default:
                        must(false);
                }
                must(";");
            }
            return signs.size();
        }

        boolean is(String... texts) {
            return List.of(texts).contains(now().text);
        }

        void e(int within) {
            both(within);
            while (is("or")) {
                at++;
                both(within);
            }
        }

        void both(int within) {
            one(within);
            while (is("and")) {
                at++;
                one(within);
            }
        }

        void one(int within) {
            if (is("not")) {
                must(within < 7);
                one(within + 1);
                return;
            }
            sum(within);
            if (is("<", ">", "=")) {
                at++;
                sum(within);
            }
        }

        void sum(int within) {
            term(within);
            while (is("+", "-")) {
                at++;
                term(within);
            }
        }

        void term(int within) {
            unit(within);
            while (is("*", "/", "%")) {
                at++;
                unit(within);
            }
        }

        void unit(int within) {
            boolean inner = is("(");
            must((now().number() || is("long", "place", "year", "much", "age", "dry") || inner && within < 7) && units < 30);
            units++;
            if (inner) {
                e(within + 1);
                must(")");
            }
        }
    }

    private static final String[] SOUP = {"size", "thing", "sign", "never", "barn", "weigh", "grow", "draw", "at", "does",
        "or", "and", "not", "long", "place", "year", "much", "age", "dry", ";", "(", ")", "<", ">", "=", "+", "-", "*", "/",
        "%", "a", "b", "ta", "tb", "m", "mom", "mo", "o", "mmmmmm", "mmmmmmm", "abcdefgh", "abcdefghi", "0", "1", "3", "9",
        "10", "12", "20", "21", "99", "100", "999", "1000", "9999", "12345", "5x", "#", "\t", "A", "\u00e9", "not not not",
        "(((", ")))"};

    private static String changed(String text, Random r) {
        List<Token> all = tokens(text);
        List<String> out = new ArrayList<>();
        for (Token t : all) {
            out.add(t.text);
        }
        int changes = r.nextInt(4);
        for (int i = 0; i < changes && !out.isEmpty(); i++) {
            int at = r.nextInt(out.size());
            switch (r.nextInt(4)) {
                case 0:
                    out.remove(at);
                    break;
                case 1:
                    out.add(at, SOUP[r.nextInt(SOUP.length)]);
                    break;
                case 2:
                    out.set(at, SOUP[r.nextInt(SOUP.length)]);
                    break;
                default: {
                    // some line once more
                    int from = at;
                    while (from > 0 && !out.get(from - 1).equals(";")) {
                        from--;
                    }
                    int to = from;
                    while (to < out.size() && !out.get(to).equals(";")) {
                        to++;
                    }
                    out.addAll(Math.min(out.size(), to + 1), new ArrayList<>(out.subList(from, Math.min(out.size(), to + 1))));
                    break;
                }
            }
        }
        StringBuilder s = new StringBuilder();
        for (String t : out) {
            s.append(t);
            if (r.nextInt(20) != 0) {
                s.append(r.nextInt(9) == 0 ? "\n" : " ");
            }
        }
        int cut = r.nextInt(10) == 0 ? r.nextInt(s.length() + 1) : s.length();
        return s.substring(0, Math.min(1580, cut));
    }

    public static void main(String[] args) {
        int[] seen = new int[6];
        for (int seed = 0; seed < TEXTS && Calls.wrongSoFar() < 20; seed++) {
            Random r = new Random(seed);
            String text = changed(Model.random(r, 0).text(r), r);
            int signs = -1;
            int kind = 0;
            int place = -1;
            try {
                signs = new Second(text).text();
            } catch (Fault f) {
                kind = f.kind;
                place = f.place;
            }
            seen[kind]++;
            MeadowSigns x = new MeadowSigns();
            Calls.feed(x, text);
            Calls.due("meadow() of " + text, x.meadow(), signs);
            Calls.due("fault(0) of " + text, x.fault(0), kind);
            Calls.due("fault(1) of " + text, x.fault(1), place);
        }
        System.out.println("texts without a fault " + seen[0] + ", with faults 1 to 5: " + seen[1] + " " + seen[2] + " "
            + seen[3] + " " + seen[4] + " " + seen[5]);
        Calls.finish();
    }
}
