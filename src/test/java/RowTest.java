import java.util.ArrayList;
import java.util.Arrays;
import java.util.List;
import java.util.Random;

/**
 * Rows with more readings than the model writes out: here they are counted from the row's first cell on,
 * and what is taken is found by asking of each sign in turn whether it can still come to the greatest weight.
 */
public final class RowTest {
    private static final int MEADOWS = 1500;
    private static final int NO_WAY = -100000;
    private static final String[] WEIGHS = {null, null, "long", "place % 5", "much - place * long", "9 - long",
        "year + long * place % 7 - 3", "200 * place - 1000", "0", "0 - 1", "long > 1", "place = 3 or long = 2"};

    private final Random r;
    private final MeadowSigns x = new MeadowSigns();
    private final List<String> shapes = new ArrayList<>();
    private final List<Integer> things = new ArrayList<>();
    private final List<Integer> values = new ArrayList<>();
    private final boolean[][] never = new boolean[8][8];
    private final int size;
    private final int weigh;
    private int barns;
    /** Weights of each sign at each cell; the greatest from each cell on, by the sign ahead, once it is known. */
    private int[][] weights;
    private Integer[][] known;
    private int orderCount;
    private List<Integer> firstOrder;
    private static int many = 0;

    private RowTest(int seed) {
        r = new Random(seed);
        size = 12 + r.nextInt(9);
        weigh = r.nextInt(WEIGHS.length);
        StringBuilder text = new StringBuilder("size " + size + ";thing p at 5;thing q at 90;");
        int count = 2 + r.nextInt(7);
        for (int i = 0; i < count; i++) {
            String shape = i == 0 && r.nextInt(6) > 0 ? "m" : shape();
            int v = r.nextInt(4) == 0 ? -r.nextInt(10) : r.nextInt(10);
            shapes.add(shape);
            things.add(r.nextInt(2));
            values.add(v);
            String name = things.get(i) == 0 ? "p" : "q";
            text.append("sign " + (char) ('a' + i) + " " + shape + " does " + name + " " + v + ";");
        }
        for (int i = r.nextInt(2) * r.nextInt(11); i > 0; i--) {
            int a = r.nextInt(count);
            int b = r.nextInt(count);
            if (!never[a][b]) {
                text.append("never " + (char) ('a' + a) + " " + (char) ('a' + b) + ";");
            }
            never[a][b] = true;
        }
        for (int i = r.nextInt(4); i > 0; i--) {
            int barn = r.nextInt(size);
            if ((barns >> barn & 1) == 0) {
                text.append("barn " + barn + ";");
            }
            barns |= 1 << barn;
        }
        if (WEIGHS[weigh] != null) {
            text.append("weigh " + WEIGHS[weigh] + ";");
        }
        Calls.feed(x, text.toString());
        Calls.due("seed " + seed + ": meadow() of " + text, x.meadow(), count);
    }

    private String shape() {
        StringBuilder s = new StringBuilder("m");
        for (int more = r.nextInt(6); more > 0; more--) {
            s.append(more > 1 && r.nextInt(3) == 0 ? 'o' : 'm');
        }
        return s.toString();
    }

    private int weightAt(int sign, int cell) {
        int length = shapes.get(sign).length();
        int year = x.about(6);
        int much = x.thing(things.get(sign));
        int[] all = {1, 1, length, cell % 5, much - cell * length, 9 - length, year + length * cell % 7 - 3,
            200 * cell - 1000, 0, -1, length > 1 ? 1 : 0, cell == 3 || length == 2 ? 1 : 0};
        return Math.max(-99, Math.min(99, all[weigh]));
    }

    private boolean fits(int sign, int cell, int look) {
        String shape = shapes.get(sign);
        for (int i = 0; i < shape.length(); i++) {
            if (cell + i >= size || (look >> cell + i & 1) != (shape.charAt(i) == 'm' ? 1 : 0)) {
                return false;
            }
        }
        return true;
    }

    private boolean mayFollow(int last, int sign) {
        return last < 0 || !never[last][sign];
    }

    /** Ways to have read all cells ahead of each, by the last sign that was read (0: none yet). */
    private long readings(int look) {
        long[][] ways = new long[size + 1][shapes.size() + 1];
        ways[0][0] = 1;
        for (int cell = 0; cell < size; cell++) {
            for (int last = 0; last <= shapes.size(); last++) {
                if ((look >> cell & 1) == 0) {
                    ways[cell + 1][last] += ways[cell][last];
                }
                for (int sign = 0; sign < shapes.size(); sign++) {
                    if (fits(sign, cell, look) && mayFollow(last - 1, sign)) {
                        ways[cell + shapes.get(sign).length()][sign + 1] += ways[cell][last];
                    }
                }
            }
        }
        return Arrays.stream(ways[size]).sum();
    }

    /** The greatest weight from a cell on, behind a sign (or -1). */
    private int greatest(int look, int cell, int last) {
        if (cell == size) {
            return 0;
        }
        if (known[cell][last + 1] != null) {
            return known[cell][last + 1];
        }
        int most = (look >> cell & 1) == 0 ? greatest(look, cell + 1, last) : NO_WAY;
        for (int sign = 0; sign < shapes.size(); sign++) {
            most = Math.max(most, greatestWith(look, cell, last, sign));
        }
        known[cell][last + 1] = most;
        return most;
    }

    private int greatestWith(int look, int cell, int last, int sign) {
        if (!fits(sign, cell, look) || !mayFollow(last, sign)) {
            return NO_WAY;
        }
        int rest = greatest(look, cell + shapes.get(sign).length(), sign);
        return rest == NO_WAY ? NO_WAY : rest + weights[sign][cell];
    }

    private void weighAll() {
        weights = new int[shapes.size()][size];
        for (int sign = 0; sign < shapes.size(); sign++) {
            for (int cell = 0; cell < size; cell++) {
                weights[sign][cell] = weightAt(sign, cell);
            }
        }
    }

    /** 10 * cell + sign of each sign of what is taken; null if there is no reading. */
    private List<Integer> taken(int look) {
        known = new Integer[size][shapes.size() + 1];
        if (greatest(look, 0, -1) == NO_WAY) {
            return null;
        }
        List<Integer> out = new ArrayList<>();
        int last = -1;
        int cell = 0;
        while (cell < size) {
            int sign = 0;
            int most = greatest(look, cell, last);
            while (sign < shapes.size() && greatestWith(look, cell, last, sign) != most) {
                sign++;
            }
            if (sign == shapes.size()) {
                cell++;
            } else {
                out.add(10 * cell + sign);
                cell += shapes.get(sign).length();
                last = sign;
            }
        }
        return out;
    }

    private int gain(List<Integer> taken, int thing) {
        int sum = 0;
        if (taken != null) {
            for (int one : taken) {
                sum += things.get(one % 10) == thing ? values.get(one % 10) : 0;
            }
        }
        return sum;
    }

    private boolean harmful(List<Integer> taken) {
        return taken != null && taken.stream().anyMatch(one -> values.get(one % 10) < 0);
    }

    private static String text(List<Integer> numbers) {
        return String.join(" ", numbers.stream().map(String::valueOf).toList());
    }

    /** All sets of at most three cells without a barn, the small ones first. */
    private List<List<Integer>> changes() {
        List<List<Integer>> all = new ArrayList<>(List.of(List.of()));
        for (int at = 0; at < all.size(); at++) {
            List<Integer> one = all.get(at);
            for (int cell = one.isEmpty() ? 0 : one.get(one.size() - 1) + 1; one.size() < 3 && cell < size; cell++) {
                if ((barns >> cell & 1) == 0) {
                    List<Integer> longer = new ArrayList<>(one);
                    longer.add(cell);
                    all.add(longer);
                }
            }
        }
        return all;
    }

    private static int bits(List<Integer> cells) {
        int set = 0;
        for (int cell : cells) {
            set |= 1 << cell;
        }
        return set;
    }

    private void readTheRow() {
        int look = x.about(3) | barns;
        long count = readings(look);
        many += count > 2000 ? 1 : 0;
        List<Integer> taken = taken(look);
        Calls.due("readings()", x.readings(), Math.min(1000000, count));
        Calls.due("taken()", x.taken(), taken == null ? -1 : taken.size());
        Calls.lies("taken()", x, taken == null ? "" : text(taken));
        Calls.due("weight()", x.weight(), taken == null ? -10000 : greatest(look, 0, -1));
        Calls.due("does(0)", x.does(0), gain(taken, 0));
        Calls.due("does(1)", x.does(1), gain(taken, 1));
        Calls.due("harm()", x.harm(), harmful(taken) ? 1 : 0);
    }

    private void changeTheRow() {
        int look = x.about(3) | barns;
        int thing = r.nextInt(2);
        int v = gain(taken(look), thing) + r.nextInt(21) - 10;
        List<Integer> found = null;
        for (List<Integer> cells : changes()) {
            List<Integer> then = taken(look ^ bits(cells));
            if (found == null && then != null && gain(then, thing) == v) {
                found = cells;
            }
        }
        boolean can = found != null && Math.abs(v) <= 99;
        Calls.due("turn(" + thing + ", " + v + ")", x.turn(thing, v), can ? found.size() : -1);
        Calls.lies("turn(" + thing + ", " + v + ")", x, can ? text(found) : "");
    }

    private static List<Integer> signs(List<Integer> taken) {
        return taken.stream().map(one -> one % 10).toList();
    }

    private void makeItPlain() {
        int look = x.about(3) | barns;
        List<Integer> now = taken(look);
        List<Integer> found = null;
        for (List<Integer> cells : changes()) {
            if (found == null && now != null && readings(look ^ bits(cells)) == 1) {
                List<Integer> then = taken(look ^ bits(cells));
                found = signs(then).equals(signs(now)) ? cells : null;
            }
        }
        Calls.due("plain()", x.plain(), found == null ? -1 : found.size());
        Calls.lies("plain()", x, found == null ? "" : text(found));
    }

    private int open() {
        return (1 << size) - 1 & ~x.about(3) & ~barns;
    }

    private void mowOne() {
        int look = x.about(3) | barns;
        int watched = 0;
        int less = 0;
        int thing = r.nextInt(2);
        for (int cell = 0; cell < size; cell++) {
            if ((open() >> cell & 1) != 0) {
                List<Integer> then = taken(look | 1 << cell);
                watched |= harmful(then) ? 1 << cell : 0;
                less += gain(then, thing) < gain(taken(look), thing) ? 1 : 0;
            }
        }
        Calls.due("watch()", x.watch(), watched);
        Calls.due("cows(" + thing + ", 0)", x.cows(thing, 0), less);
        Calls.due("cows(" + thing + ", 1)", x.cows(thing, 1), Integer.bitCount(open()));
    }

    private void fight() {
        int look = x.about(3) | barns;
        int mine = open() & r.nextInt(1 << size);
        int his = open() & ~mine;
        int thing = r.nextInt(2);
        int[] best = {-10000, -10000, -10000};
        for (int a = 0; a < size; a++) {
            int[] worst = {10000, 0, 0};
            for (int b = 0; b < size; b++) {
                boolean can = (mine >> a & 1) != 0 && (his >> b & 1) != 0;
                int then = can ? gain(taken(look | 1 << a | 1 << b), thing) : 10000;
                worst = then < worst[0] ? new int[] {then, a, b} : worst;
            }
            best = worst[0] < 10000 && worst[0] > best[0] ? worst : best;
        }
        for (int what = 0; what < 3; what++) {
            String call = "duel(" + thing + ", " + mine + ", " + his + ", " + what + ")";
            Calls.due(call, x.duel(thing, mine, his, what), best[what]);
        }
    }

    private void goThroughOrders(int look, int left, List<Integer> soFar) {
        if (left == 0) {
            firstOrder = orderCount == 0 ? new ArrayList<>(soFar) : firstOrder;
            orderCount++;
        }
        for (int cell = 0; cell < size; cell++) {
            if ((left >> cell & 1) != 0 && !harmful(taken(look | 1 << cell))) {
                soFar.add(cell);
                goThroughOrders(look | 1 << cell, left & ~(1 << cell), soFar);
                soFar.remove(soFar.size() - 1);
            }
        }
    }

    private void inOrder() {
        int set = open() & r.nextInt(1 << size);
        while (Integer.bitCount(set) > 5) {
            set &= set - 1;
        }
        orderCount = 0;
        firstOrder = List.of();
        goThroughOrders(x.about(3) | barns, set, new ArrayList<>());
        Calls.due("orders(" + set + ")", x.orders(set), orderCount);
        Calls.lies("orders(" + set + ")", x, text(firstOrder));
    }

    private void run() {
        int dense = 1 + r.nextInt(12);
        for (int cell = 0; cell < size; cell++) {
            if (r.nextInt(12) < dense) {
                x.mow(cell);
            }
        }
        for (int years = r.nextInt(3); years > 0; years--) {
            x.year();
        }
        weighAll();
        readTheRow();
        if (r.nextInt(2) == 0) {
            changeTheRow();
        } else {
            makeItPlain();
        }
        mowOne();
        fight();
        inOrder();
        readTheRow();
    }

    public static void main(String[] args) {
        for (int seed = 1; seed <= MEADOWS && Calls.wrongSoFar() < 20; seed++) {
            int wrong = Calls.wrongSoFar();
            new RowTest(seed).run();
            if (wrong != Calls.wrongSoFar()) {
                System.out.println("  with seed " + seed);
            }
        }
        System.out.println("rows with more than 2000 readings: " + many);
        Calls.finish();
    }
}
