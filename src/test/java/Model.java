import java.util.ArrayList;
import java.util.HashSet;
import java.util.List;
import java.util.Random;
import java.util.Set;

/**
 * The document once more, in the slowest and plainest way: every reading is written out, every
 * grammar is tried. The class is held against it on random runs.
 */
final class Model {
    /** A formula as a tree. */
    static final class Tree {
        final String head;
        final Tree left;
        final Tree right;

        Tree(String head, Tree left, Tree right) {
            this.head = head;
            this.left = left;
            this.right = right;
        }

        int value(java.util.Map<String, Integer> by) {
            if (left == null) {
                return Character.isDigit(head.charAt(0)) ? Integer.parseInt(head) : by.getOrDefault(head, 0);
            }
            int a = left.value(by);
            if (head.equals("(")) {
                return a;
            }
            if (head.equals("not")) {
                return a == 0 ? 1 : 0;
            }
            int b = right.value(by);
            switch (head) {
                case "or": return a != 0 || b != 0 ? 1 : 0;
                case "and": return a != 0 && b != 0 ? 1 : 0;
                case "<": return a < b ? 1 : 0;
                case ">": return a > b ? 1 : 0;
                case "=": return a == b ? 1 : 0;
                case "+": return a + b;
                case "-": return a - b;
                case "*": return a * b;
                case "/": return b == 0 ? 0 : (int) ((long) a / b);
                default: return b == 0 ? 0 : (int) ((long) a % b);
            }
        }

        void print(List<String> tokens) {
            if (left == null) {
                tokens.add(head);
            } else if (head.equals("(")) {
                tokens.add("(");
                left.print(tokens);
                tokens.add(")");
            } else if (head.equals("not")) {
                tokens.add("not");
                left.print(tokens);
            } else {
                left.print(tokens);
                tokens.add(head);
                right.print(tokens);
            }
        }

        int units() {
            return left == null ? 1 : (head.equals("(") ? 1 : 0) + left.units() + (right == null ? 0 : right.units());
        }
    }

    static final class Sign {
        String name;
        String shape;
        int thing;
        int v;
    }

    static final class Moment {
        boolean[] mown;
        int[] age;
        int[] amount;
        int year;
        int seed;

        Moment copy() {
            Moment m = new Moment();
            m.mown = mown.clone();
            m.age = age.clone();
            m.amount = amount.clone();
            m.year = year;
            m.seed = seed;
            return m;
        }
    }

    static final class Placed {
        final int cell;
        final int sign;

        Placed(int cell, int sign) {
            this.cell = cell;
            this.sign = sign;
        }
    }

    static final class Told {
        int a;
        int b;
        int c;
        boolean is;
        int at;
        Integer untold;
    }

    static final int TOO_MANY = 2000;

    int size = 12;
    List<String> things = new ArrayList<>();
    List<Integer> starts = new ArrayList<>();
    List<Sign> signs = new ArrayList<>();
    Set<String> nevers = new HashSet<>();
    List<Integer> barns = new ArrayList<>();
    Tree weigh;
    Tree grow;
    int draw;
    Moment now;
    List<Moment> past = new ArrayList<>();
    List<Moment> undone = new ArrayList<>();
    Moment[] boxes = new Moment[3];
    List<Integer> lies = new ArrayList<>();
    List<Told> heard = new ArrayList<>();
    int time;
    /** Whether a row came up that has more readings than are written out here. */
    boolean overflow;

    // ---- a random meadow ----

    static Model random(Random r, int time) {
        Model m = new Model();
        m.time = time;
        m.size = r.nextInt(6) == 0 ? 12 : 4 + r.nextInt(r.nextInt(4) == 0 ? 17 : 7);
        int thingCount = r.nextInt(10) == 0 ? 0 : 1 + r.nextInt(4);
        for (int i = 0; i < thingCount; i++) {
            m.things.add("t" + (char) ('a' + i));
            m.starts.add(r.nextInt(100));
        }
        int signCount = thingCount == 0 ? 0 : r.nextInt(8) == 0 ? 0 : 1 + r.nextInt(r.nextInt(3) == 0 ? 8 : 4);
        for (int i = 0; i < signCount; i++) {
            Sign s = new Sign();
            s.name = "" + (char) ('a' + i);
            s.shape = r.nextInt(3) == 0 ? "m" : shape(r);
            s.thing = r.nextInt(thingCount);
            s.v = r.nextInt(19) - 9;
            m.signs.add(s);
        }
        if (signCount > 0) {
            int neverCount = r.nextInt(3) == 0 ? r.nextInt(11) : r.nextInt(3);
            for (int i = 0; i < neverCount; i++) {
                m.nevers.add(r.nextInt(signCount) + " " + r.nextInt(signCount));
            }
        }
        int barnCount = r.nextInt(3) == 0 ? r.nextInt(5) : r.nextInt(2);
        for (int i = 0; i < barnCount; i++) {
            int cell = r.nextInt(m.size);
            if (!m.barns.contains(cell)) {
                m.barns.add(cell);
            }
        }
        m.weigh = r.nextInt(4) == 0 ? null : e(r, 3);
        m.grow = r.nextInt(4) == 0 ? null : e(r, 3);
        m.draw = r.nextInt(3) == 0 ? 0 : r.nextInt(1000);
        if (m.weigh != null && m.weigh.units() > 30) {
            m.weigh = null;
        }
        if (m.grow != null && m.grow.units() > 30) {
            m.grow = null;
        }
        m.now = new Moment();
        m.now.mown = new boolean[m.size];
        m.now.age = new int[m.size];
        m.now.amount = new int[thingCount];
        for (int i = 0; i < thingCount; i++) {
            m.now.amount[i] = m.starts.get(i);
        }
        m.now.seed = m.draw;
        return m;
    }

    private static String shape(Random r) {
        StringBuilder s = new StringBuilder("m");
        int more = r.nextInt(r.nextInt(3) == 0 ? 6 : 3);
        for (int i = 0; i < more; i++) {
            s.append(i == more - 1 || r.nextBoolean() ? 'm' : 'o');
        }
        return s.toString();
    }

    private static Tree chain(Random r, int depth, int level) {
        if (level == 5) {
            int pick = r.nextInt(depth > 0 ? 10 : 8);
            if (pick >= 8) {
                return new Tree("(", e(r, depth - 1), null);
            }
            String[] words = {"long", "place", "year", "much", "age", "dry"};
            return pick < 6 ? new Tree(words[pick], null, null)
                : new Tree("" + r.nextInt(r.nextInt(8) == 0 ? 10000 : 8), null, null);
        }
        if (level == 2 && depth > 0 && r.nextInt(8) == 0) {
            return new Tree("not", chain(r, depth - 1, 2), null);
        }
        String[][] joins = {{"or"}, {"and"}, {"<", ">", "="}, {"+", "-"}, {"*", "/", "%"}};
        int[] odds = {8, 8, 4, 3, 3};
        Tree t = chain(r, depth, level + 1);
        for (int i = 0; i < (level == 2 ? 1 : 3) && r.nextInt(odds[level]) == 0; i++) {
            t = new Tree(joins[level][r.nextInt(joins[level].length)], t, chain(r, depth, level + 1));
        }
        return t;
    }

    static Tree e(Random r, int depth) {
        return chain(r, depth, 0);
    }

    int units() {
        return (weigh == null ? 0 : weigh.units()) + (grow == null ? 0 : grow.units());
    }

    String text(Random r) {
        List<String> tokens = new ArrayList<>();
        if (size != 12 || r.nextBoolean()) {
            add(tokens, "size", "" + size, ";");
        }
        List<List<String>> free = new ArrayList<>();
        if (weigh != null) {
            List<String> l = new ArrayList<>();
            l.add("weigh");
            weigh.print(l);
            l.add(";");
            free.add(l);
        }
        if (grow != null) {
            List<String> l = new ArrayList<>();
            l.add("grow");
            grow.print(l);
            l.add(";");
            free.add(l);
        }
        if (draw != 0 || r.nextBoolean()) {
            free.add(List.of("draw", "" + draw, ";"));
        }
        for (int b : barns) {
            free.add(List.of("barn", "" + b, ";"));
        }
        java.util.Collections.shuffle(free, r);
        int fed = 0;
        for (int i = 0; i < things.size(); i++) {
            while (fed < free.size() && r.nextInt(3) == 0) {
                tokens.addAll(free.get(fed++));
            }
            add(tokens, "thing", "t" + (char) ('a' + i), "at", "" + starts.get(i), ";");
        }
        for (Sign s : signs) {
            while (fed < free.size() && r.nextInt(3) == 0) {
                tokens.addAll(free.get(fed++));
            }
            add(tokens, "sign", s.name, s.shape, "does", things.get(s.thing));
            if (s.v < 0) {
                tokens.add("-");
            }
            add(tokens, "" + Math.abs(s.v), ";");
        }
        for (String n : nevers) {
            add(tokens, "never", signs.get(Integer.parseInt(n.split(" ")[0])).name,
                signs.get(Integer.parseInt(n.split(" ")[1])).name, ";");
        }
        while (fed < free.size()) {
            tokens.addAll(free.get(fed++));
        }
        return join(tokens, r);
    }

    private static void add(List<String> tokens, String... more) {
        tokens.addAll(List.of(more));
    }

    private static String join(List<String> tokens, Random r) {
        StringBuilder s = new StringBuilder();
        for (String t : tokens) {
            boolean glue = s.length() > 0 && Character.isLetterOrDigit(s.charAt(s.length() - 1))
                && Character.isLetterOrDigit(t.charAt(0))
                && !(Character.isLetter(s.charAt(s.length() - 1)) && Character.isDigit(t.charAt(0)));
            if (glue || r.nextInt(6) == 0) {
                s.append(r.nextInt(5) == 0 ? '\n' : ' ');
            }
            s.append(t);
        }
        return s.toString();
    }

    // ---- readings ----

    boolean[] look(Moment m) {
        boolean[] look = m.mown.clone();
        for (int b : barns) {
            look[b] = true;
        }
        return look;
    }

    List<List<Placed>> all(boolean[] look) {
        List<List<Placed>> out = new ArrayList<>();
        spread(look, 0, new ArrayList<>(), out);
        return out;
    }

    private void spread(boolean[] look, int cell, List<Placed> soFar, List<List<Placed>> out) {
        if (overflow || out.size() >= TOO_MANY) {
            overflow = true;
            return;
        }
        if (cell == size) {
            out.add(new ArrayList<>(soFar));
            return;
        }
        for (int s = 0; s < signs.size(); s++) {
            String shape = signs.get(s).shape;
            boolean fits = cell + shape.length() <= size;
            for (int i = 0; fits && i < shape.length(); i++) {
                fits = look[cell + i] == (shape.charAt(i) == 'm');
            }
            if (fits && !soFar.isEmpty()) {
                fits = !nevers.contains(soFar.get(soFar.size() - 1).sign + " " + s);
            }
            if (fits) {
                soFar.add(new Placed(cell, s));
                spread(look, cell + shape.length(), soFar, out);
                soFar.remove(soFar.size() - 1);
            }
        }
        if (!look[cell]) {
            spread(look, cell + 1, soFar, out);
        }
    }

    int weightOf(Placed p, Moment m) {
        if (weigh == null) {
            return 1;
        }
        Sign s = signs.get(p.sign);
        int w = weigh.value(java.util.Map.of("long", s.shape.length(), "place", p.cell, "year", m.year,
            "much", m.amount[s.thing]));
        return w < -99 ? -99 : w > 99 ? 99 : w;
    }

    int weightOf(List<Placed> reading, Moment m) {
        int sum = 0;
        for (Placed p : reading) {
            sum += weightOf(p, m);
        }
        return sum;
    }

    /** The readings are written out in their order, so the first of the greatest is taken. */
    List<Placed> taken(boolean[] look, Moment m) {
        List<Placed> best = null;
        for (List<Placed> reading : all(look)) {
            if (best == null || weightOf(reading, m) > weightOf(best, m)) {
                best = reading;
            }
        }
        return best;
    }

    int gain(List<Placed> reading, int thing) {
        int sum = 0;
        if (reading != null) {
            for (Placed p : reading) {
                sum += signs.get(p.sign).thing == thing ? signs.get(p.sign).v : 0;
            }
        }
        return sum;
    }

    boolean harmful(List<Placed> reading) {
        if (reading != null) {
            for (Placed p : reading) {
                if (signs.get(p.sign).v < 0) {
                    return true;
                }
            }
        }
        return false;
    }

    List<Placed> takenNow() {
        return taken(look(now), now);
    }

    // ---- the face ----

    boolean noThing(int thing) {
        return thing < 0 || thing >= things.size();
    }

    int bits(boolean[] b) {
        int x = 0;
        for (int i = 0; i < b.length; i++) {
            x |= b[i] ? 1 << i : 0;
        }
        return x;
    }

    int mownCount() {
        return Integer.bitCount(bits(now.mown));
    }

    int thing(int t) {
        return noThing(t) ? -10000 : now.amount[t];
    }

    int glyph(int sign, int what) {
        if (sign < 0 || sign >= signs.size()) {
            return -10000;
        }
        Sign s = signs.get(sign);
        switch (what) {
            case 0: {
                int x = 0;
                for (int i = 0; i < s.shape.length(); i++) {
                    x += s.shape.charAt(i) == 'm' ? 1 << i : 0;
                }
                return x;
            }
            case 1: return s.shape.length();
            case 2: return s.thing;
            case 3: return s.v;
            case 4: {
                int x = 0;
                List<Placed> t = takenNow();
                if (t != null) {
                    for (Placed p : t) {
                        x |= p.sign == sign ? 1 << p.cell : 0;
                    }
                }
                return x;
            }
            default: return -10000;
        }
    }

    int plot(int cell, int what) {
        if (cell < 0 || cell >= size) {
            return -2;
        }
        switch (what) {
            case 0: return now.mown[cell] ? 1 : 0;
            case 1: return now.mown[cell] ? now.age[cell] : -1;
            case 2: return barns.contains(cell) ? 1 : 0;
            case 3: {
                List<Placed> t = takenNow();
                if (t != null) {
                    for (Placed p : t) {
                        if (p.cell == cell) {
                            return p.sign;
                        }
                    }
                }
                return -1;
            }
            default: return -2;
        }
    }

    private void act() {
        past.add(now.copy());
        if (past.size() > 40) {
            past.remove(0);
        }
        undone.clear();
    }

    int mow(int cell) {
        if (cell < 0 || cell >= size) {
            return -1;
        }
        act();
        now.mown[cell] = true;
        now.age[cell] = 0;
        return mownCount();
    }

    int sow(int cell) {
        if (cell < 0 || cell >= size || !now.mown[cell]) {
            return -1;
        }
        act();
        now.mown[cell] = false;
        return mownCount();
    }

    int pass(Moment m) {
        List<Placed> t = taken(look(m), m);
        if (t != null) {
            for (Placed p : t) {
                Sign s = signs.get(p.sign);
                m.amount[s.thing] = Math.max(-999, Math.min(999, m.amount[s.thing] + s.v));
            }
        }
        m.year += 1;
        m.seed = (m.seed * 137 + 71) % 1000;
        if ((m.seed / 10) % 2 == 0) {
            m.mown[m.seed % size] = true;
            m.age[m.seed % size] = 0;
        }
        for (int c = 0; c < size; c++) {
            if (m.mown[c]) {
                m.age[c]++;
                int g = grow == null ? 0 : grow.value(java.util.Map.of("age", m.age[c], "place", c, "year", m.year,
                    "dry", m.seed / 100));
                if (g != 0) {
                    m.mown[c] = false;
                }
            }
        }
        return t == null ? -1 : t.size();
    }

    int year() {
        act();
        return pass(now);
    }

    boolean undo() {
        if (past.isEmpty()) {
            return false;
        }
        undone.add(now);
        now = past.remove(past.size() - 1);
        return true;
    }

    boolean redo() {
        if (undone.isEmpty()) {
            return false;
        }
        past.add(now);
        now = undone.remove(undone.size() - 1);
        return true;
    }

    int readings() {
        return all(look(now)).size();
    }

    int taken() {
        lies.clear();
        List<Placed> t = takenNow();
        if (t == null) {
            return -1;
        }
        for (Placed p : t) {
            lies.add(10 * p.cell + p.sign);
        }
        return t.size();
    }

    int weight() {
        List<Placed> t = takenNow();
        return t == null ? -10000 : weightOf(t, now);
    }

    int does(int thing) {
        return noThing(thing) ? -10000 : gain(takenNow(), thing);
    }

    private Moment after(int n) {
        Moment m = now.copy();
        for (int i = 0; i < n; i++) {
            pass(m);
        }
        return m;
    }

    int will(int thing, int n) {
        return noThing(thing) || n < 0 || n > 60 ? -10000 : after(n).amount[thing];
    }

    int field(int n) {
        return n < 0 || n > 60 ? -1 : bits(after(n).mown);
    }

    int harm() {
        return harmful(takenNow()) ? 1 : 0;
    }

    /** All sets of so many cells of these, in their order. */
    private void sets(List<Integer> from, int start, int many, List<Integer> soFar, List<List<Integer>> out) {
        if (many == 0) {
            out.add(new ArrayList<>(soFar));
            return;
        }
        for (int i = start; i < from.size(); i++) {
            soFar.add(from.get(i));
            sets(from, i + 1, many - 1, soFar, out);
            soFar.remove(soFar.size() - 1);
        }
    }

    private List<List<Integer>> changes() {
        List<Integer> free = new ArrayList<>();
        for (int c = 0; c < size; c++) {
            if (!barns.contains(c)) {
                free.add(c);
            }
        }
        List<List<Integer>> out = new ArrayList<>();
        for (int many = 0; many <= 3; many++) {
            sets(free, 0, many, new ArrayList<>(), out);
        }
        return out;
    }

    private boolean[] changed(List<Integer> cells) {
        Moment m = now.copy();
        for (int c : cells) {
            m.mown[c] = !m.mown[c];
        }
        return look(m);
    }

    int turn(int thing, int v) {
        lies.clear();
        if (noThing(thing) || v < -99 || v > 99) {
            return -1;
        }
        for (List<Integer> cells : changes()) {
            List<Placed> t = taken(changed(cells), now);
            if (t != null && gain(t, thing) == v) {
                lies.addAll(cells);
                return cells.size();
            }
        }
        return -1;
    }

    private static List<Integer> signsOf(List<Placed> reading) {
        List<Integer> out = new ArrayList<>();
        for (Placed p : reading) {
            out.add(p.sign);
        }
        return out;
    }

    int plain() {
        lies.clear();
        List<Placed> t = takenNow();
        if (t == null) {
            return -1;
        }
        for (List<Integer> cells : changes()) {
            List<List<Placed>> all = all(changed(cells));
            if (all.size() == 1 && signsOf(all.get(0)).equals(signsOf(t))) {
                lies.addAll(cells);
                return cells.size();
            }
        }
        return -1;
    }

    private List<Integer> openSet(int set) {
        List<Integer> out = new ArrayList<>();
        for (int c = 0; c < 32; c++) {
            if ((set >> c & 1) != 0) {
                if (c >= size || now.mown[c] || barns.contains(c)) {
                    return null;
                }
                out.add(c);
            }
        }
        return out;
    }

    private int orderCount;

    private void order(boolean[] look, List<Integer> left, List<Integer> soFar) {
        if (left.isEmpty()) {
            if (orderCount == 0) {
                lies.addAll(soFar);
            }
            orderCount++;
            return;
        }
        for (int c : left) {
            boolean[] next = look.clone();
            next[c] = true;
            if (!harmful(taken(next, now))) {
                List<Integer> rest = new ArrayList<>(left);
                rest.remove((Integer) c);
                soFar.add(c);
                order(next, rest, soFar);
                soFar.remove(soFar.size() - 1);
            }
        }
    }

    int orders(int set) {
        lies.clear();
        List<Integer> cells = openSet(set);
        if (cells == null || cells.size() > 8) {
            return -1;
        }
        orderCount = 0;
        order(look(now), cells, new ArrayList<>());
        return orderCount;
    }

    private boolean tryWrite(int[] which, int many, int[] at) {
        Moment m = now.copy();
        m.mown = new boolean[size];
        for (int i = 0; i < many; i++) {
            String shape = signs.get(which[i]).shape;
            if (at[i] + shape.length() > size || i > 0 && at[i] < at[i - 1] + signs.get(which[i - 1]).shape.length()) {
                return false;
            }
            for (int j = 0; j < shape.length(); j++) {
                if (shape.charAt(j) == 'm') {
                    m.mown[at[i] + j] = true;
                }
            }
        }
        List<List<Placed>> all = all(look(m));
        if (all.size() != 1 || all.get(0).size() != many) {
            return false;
        }
        for (int i = 0; i < many; i++) {
            if (all.get(0).get(i).cell != at[i] || all.get(0).get(i).sign != which[i]) {
                return false;
            }
        }
        return true;
    }

    int write(int a, int b, int c) {
        lies.clear();
        int n = signs.size();
        if (a < 0 || a >= n || b < -1 || b >= n || c < -1 || c >= n || b == -1 && c != -1) {
            return -1;
        }
        int[] which = {a, b, c};
        int many = b == -1 ? 1 : c == -1 ? 2 : 3;
        int m = 0;
        for (int i = 0; i < many; i++) {
            m += signs.get(which[i]).shape.replace("o", "").length();
        }
        int[] at = new int[3];
        for (at[0] = 0; at[0] < size; at[0]++) {
            for (at[1] = 0; at[1] < (many > 1 ? size : 1); at[1]++) {
                for (at[2] = 0; at[2] < (many > 2 ? size : 1); at[2]++) {
                    if (tryWrite(which, many, at)) {
                        for (int i = 0; i < many; i++) {
                            lies.add(at[i]);
                        }
                        return m;
                    }
                }
            }
        }
        return -1;
    }

    private List<Integer> openCells() {
        List<Integer> out = new ArrayList<>();
        for (int c = 0; c < size; c++) {
            if (!now.mown[c] && !barns.contains(c)) {
                out.add(c);
            }
        }
        return out;
    }

    int watch() {
        int x = 0;
        for (int c : openCells()) {
            x |= harmful(taken(changed(List.of(c)), now)) ? 1 << c : 0;
        }
        return x;
    }

    int cows(int thing, int part) {
        if (noThing(thing) || part < 0 || part > 1) {
            return -1;
        }
        if (part == 1) {
            return openCells().size();
        }
        int x = 0;
        for (int c : openCells()) {
            x += gain(taken(changed(List.of(c)), now), thing) < gain(takenNow(), thing) ? 1 : 0;
        }
        return x;
    }

    int duel(int thing, int mine, int his, int what) {
        List<Integer> m = openSet(mine);
        List<Integer> h = openSet(his);
        if (noThing(thing) || m == null || h == null || m.isEmpty() || h.isEmpty() || (mine & his) != 0
            || what < 0 || what > 2) {
            return -10000;
        }
        int[] best = null;
        for (int c : m) {
            int[] worst = null;
            for (int d : h) {
                int g = gain(taken(changed(List.of(c, d)), now), thing);
                if (worst == null || g < worst[0]) {
                    worst = new int[] {g, c, d};
                }
            }
            if (best == null || worst[0] > best[0]) {
                best = worst;
            }
        }
        return best[what];
    }

    int lies(int i) {
        return i < 0 || i >= lies.size() ? -1 : lies.get(i);
    }

    // ---- what was heard ----

    private int firstSigns() {
        return Math.min(4, signs.size());
    }

    private boolean noSign(int s) {
        return s < 0 || s >= firstSigns();
    }

    int heard(int a, int b, int c, boolean is) {
        if (noSign(a) || noSign(b) || c != -1 && noSign(c) || heard.size() >= 30) {
            return -1;
        }
        Told t = new Told();
        t.a = a;
        t.b = b;
        t.c = c;
        t.is = is;
        t.at = time;
        heard.add(t);
        return heard.size() - 1;
    }

    boolean untell(int i) {
        if (i < 0 || i >= heard.size() || heard.get(i).untold != null) {
            return false;
        }
        heard.get(i).untold = time;
        return true;
    }

    int later(int by) {
        if (by < 0 || by > 1000 || time + by > 100000) {
            return -1;
        }
        time += by;
        return time;
    }

    private List<Integer> fitting(int k) {
        int n = firstSigns();
        List<Told> counts = new ArrayList<>();
        for (Told t : heard) {
            if (t.at <= k && (t.untold == null || t.untold > k)) {
                counts.add(t);
            }
        }
        List<Integer> out = new ArrayList<>();
        for (int g = 0; g < 1 << n * n; g++) {
            boolean all = true;
            for (Told t : counts) {
                boolean understood = (g >> (t.a * n + t.b) & 1) != 0 && (t.c == -1 || (g >> (t.b * n + t.c) & 1) != 0);
                all &= understood == t.is;
            }
            if (all) {
                out.add(g);
            }
        }
        return out;
    }

    private int with(List<Integer> grammars, int a, int b) {
        int x = 0;
        for (int g : grammars) {
            x += g >> (a * firstSigns() + b) & 1;
        }
        return x;
    }

    int fit(int k) {
        return fitting(k).size();
    }

    int sure(int a, int b, int k) {
        List<Integer> g = fitting(k);
        if (noSign(a) || noSign(b) || g.isEmpty()) {
            return -1;
        }
        int w = with(g, a, b);
        return w == g.size() ? 1 : w == 0 ? 0 : -2;
    }

    int ask(int what, int k) {
        List<Integer> g = fitting(k);
        if (g.isEmpty() || signs.isEmpty() || what < 0 || what > 1) {
            return -1;
        }
        int[] best = null;
        for (int a = 0; a < firstSigns(); a++) {
            for (int b = 0; b < firstSigns(); b++) {
                int w = with(g, a, b);
                int most = Math.max(w, g.size() - w);
                if (best == null || most < best[1]) {
                    best = new int[] {10 * a + b, most};
                }
            }
        }
        return best[what];
    }

    int image(int box) {
        if (box < 0 || box > 2) {
            return -1;
        }
        boxes[box] = now.copy();
        return now.year;
    }

    int back(int box) {
        if (box < 0 || box > 2 || boxes[box] == null) {
            return -1;
        }
        now = boxes[box].copy();
        past.clear();
        undone.clear();
        return now.year;
    }

    int about(int what) {
        int barnBits = 0;
        for (int b : barns) {
            barnBits |= 1 << b;
        }
        int[] all = {signs.size(), things.size(), size, bits(now.mown), barnBits, nevers.size(), now.year, now.seed,
            past.size(), undone.size(), heard.size(), time, 0, units(), lies.size()};
        return what < 0 || what >= all.length ? -1 : all[what];
    }
}
