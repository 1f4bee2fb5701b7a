/** Each sentence that names a boundary of plans (section 3, promises 21 to 28), by itself. */
public final class PlanEdgeTest {
    private static final int LEAST = Integer.MIN_VALUE;
    private static final int GREATEST = Integer.MAX_VALUE;
    /** One letter brings 1; one sort of sign alone, so a row is read in one way. */
    private static final String ONES = "thing t at 1;thing u at 1;sign a m does t 1;";
    /** Two beside one another do harm, one or three do not. */
    private static final String TWO_HARM = "thing t at 1;sign a m does t 1;sign b mm does t - 1;sign c mmm does t 1;"
        + "weigh long*long;";

    private PlanEdgeTest() {
    }

    public static void main(String[] args) {
        nothingIsDone();
        changed();
        turnFewest();
        turnByWeights();
        turnNeedsReading();
        plainFewest();
        plainOrder();
        likeOnes();
        ordersOfSet();
        ordersWithoutHarm();
        ordersFirst();
        writeInEmptyRow();
        writeBarns();
        writeApart();
        writeFirst();
        watchCells();
        cowsLess();
        duelSets();
        duelValues();
        turn();
        plain();
        orders();
        write();
        watch();
        cows();
        duel();
        lies();
        Calls.finish();
    }

    private static void by(String words) {
        Calls.by(words);
    }

    private static void due(String call, long got, long want) {
        Calls.due(call, got, want);
    }

    private static void due(String call, boolean got, boolean want) {
        Calls.due(call, got, want);
    }

    private static MeadowSigns told(String text) {
        return Calls.told(text);
    }

    private static void mow(MeadowSigns x, int... cells) {
        Calls.mow(x, cells);
    }

    private static void lie(String call, MeadowSigns x, String want) {
        Calls.lies(call, x, want);
    }

    private static void nothingIsDone() {
        by("(By what is now; nothing is done.");
        MeadowSigns x = told("size 8;" + TWO_HARM + "barn 7;draw 4;");
        mow(x, 0, 3);
        x.year();
        mow(x, 5);
        x.undo();
        x.image(0);
        int[] before = new int[14];
        for (int i = 0; i < 14; i++) {
            before[i] = x.about(i);
        }
        x.harm();
        x.turn(0, 3);
        x.plain();
        x.orders(2 + 4);
        x.write(0, 0, -1);
        x.watch();
        x.cows(0, 0);
        x.duel(0, 2, 4, 0);
        for (int i = 0; i < 14; i++) {
            due("about(" + i + ")", x.about(i), before[i]);
        }
        due("plot(0, 1)", x.plot(0, 1), 1);
        due("redo()", x.redo(), true);
        due("back(0)", x.back(0), 1);
        // by what is now: weights by the year and by how much there is
        MeadowSigns y = told("size 4;thing t at 0;sign a mm does t 1;sign b mm does t - 1;weigh year=much;grow 0;");
        mow(y, 0, 1);
        due("harm() at first: both weigh 1", y.harm(), 0);
        due("turn(0, 0 - 1)", y.turn(0, -1), -1);
        MeadowSigns z = told("size 4;thing t at 0;thing u at 5;sign a mm does t 1;sign b mm does u - 1;weigh 9-much;");
        mow(z, 0, 1);
        due("turn(1, -1) at first: a weighs more", z.turn(1, -1), -1);
        for (int i = 0; i < 5; i++) {
            z.year();
            for (int cell = 2; cell < 4; cell++) {
                z.sow(cell);
            }
        }
        due("thing(0)", z.thing(0), 5);
        due("turn(1, -1): of like ones the first", z.turn(1, -1), -1);
        z.year();
        z.sow(2);
        z.sow(3);
        due("thing(0)", z.thing(0), 6);
        due("turn(1, -1): b weighs more", z.turn(1, -1), 0);
        due("watch(): none", z.watch() & 3, 0);
    }

    private static void changed() {
        by("CHANGED: a CELL without a BARN, mown if it is not MOWN, else sown.)");
        MeadowSigns x = told("size 4;" + ONES + "barn 1;");
        due("turn(0, 0): the barn can't go", x.turn(0, 0), -1);
        due("turn(0, 2): mown", x.turn(0, 2), 1);
        lie("turn(0, 2)", x, "0");
        due("turn(0, 4)", x.turn(0, 4), 3);
        lie("turn(0, 4)", x, "0 2 3");
        mow(x, 0, 1, 2, 3);
        due("turn(0, 3): sown", x.turn(0, 3), 1);
        lie("turn(0, 3)", x, "0");
        due("turn(0, 1)", x.turn(0, 1), 3);
        lie("turn(0, 1): the barn is mown, too, but not changed", x, "0 2 3");
        due("turn(0, 0)", x.turn(0, 0), -1);
        MeadowSigns y = told("size 4;thing t at 1;sign a mm does t 1;sign b mmm does t 2;");
        mow(y, 0, 1);
        due("turn(0, 2)", y.turn(0, 2), 1);
        lie("turn(0, 2): one mown", y, "2");
        MeadowSigns z = told("size 5;thing t at 1;sign a mm does t 1;sign b mom does t 2;");
        mow(z, 0, 1);
        due("turn(0, 2)", z.turn(0, 2), 2);
        lie("turn(0, 2): one mown and one sown", z, "0 3");
    }

    private static void turnFewest() {
        by("TURN of a THING to V: the fewest CELLS CHANGED (3 at most)");
        MeadowSigns x = told("size 20;" + ONES);
        due("turn(0, 0)", x.turn(0, 0), 0);
        lie("turn(0, 0)", x, "");
        due("turn(0, 3)", x.turn(0, 3), 3);
        lie("turn(0, 3)", x, "0 1 2");
        due("turn(0, 4)", x.turn(0, 4), -1);
        lie("turn(0, 4)", x, "");
        // at the row's end alone
        MeadowSigns y = told("size 20;thing t at 1;sign a mmm does t 1;sign b m does t 0;"
            + "weigh (long=3)*((place=17)*18-9);");
        due("turn(0, 1)", y.turn(0, 1), 3);
        lie("turn(0, 1)", y, "17 18 19");
        // one alone, though two or three would do it, too
        MeadowSigns z = told("size 6;thing t at 1;sign a m does t 2;sign b mm does t 4;weigh long*long;");
        due("turn(0, 4)", z.turn(0, 4), 2);
        lie("turn(0, 4)", z, "0 1");
        mow(z, 4);
        due("turn(0, 4)", z.turn(0, 4), 1);
        lie("turn(0, 4)", z, "0");
    }

    /** Weights are those that signs would have where they would stand then. */
    private static void turnByWeights() {
        by("V's of what is TAKEN for that THING are together just V");
        MeadowSigns x = told("size 6;thing t at 1;sign a m does t 1;sign b mom does t 9;sign c moom does t 5;"
            + "weigh (long>2)*place*3+(long=1);");
        due("turn(0, 9)", x.turn(0, 9), 2);
        lie("turn(0, 9): at 0 two of a weigh more", x, "1 3");
        due("turn(0, 5)", x.turn(0, 5), 2);
        lie("turn(0, 5)", x, "1 4");
        mow(x, 0);
        due("turn(0, 9)", x.turn(0, 9), 3);
        lie("turn(0, 9)", x, "0 1 3");
        due("turn(0, 10)", x.turn(0, 10), 2);
        lie("turn(0, 10)", x, "1 3");
    }

    private static void turnNeedsReading() {
        by("so that there is a READING and V's of what is TAKEN for that THING are together just V");
        MeadowSigns x = told("size 5;thing t at 1;thing u at 1;sign a mm does t 1;");
        mow(x, 4);
        due("turn(0, 0): there is none now", x.turn(0, 0), 1);
        lie("turn(0, 0)", x, "4");
        due("turn(1, 0)", x.turn(1, 0), 1);
        lie("turn(1, 0): a reading will do", x, "3");
        due("turn(0, 1)", x.turn(0, 1), 1);
        lie("turn(0, 1)", x, "3");
        due("turn(0, 2)", x.turn(0, 2), 3);
        lie("turn(0, 2)", x, "0 1 3");
        MeadowSigns y = new MeadowSigns();
        due("turn(0, 0) without things", y.turn(0, 0), -1);
        MeadowSigns z = told("thing t at 1;");
        due("turn(0, 0) without signs", z.turn(0, 0), 0);
        due("turn(0, 1) without signs", z.turn(0, 1), -1);
        z.mow(3);
        due("turn(0, 0)", z.turn(0, 0), 1);
        lie("turn(0, 0)", z, "3");
    }

    private static void plainFewest() {
        by("PLAIN: the fewest CELLS CHANGED (3 at most) so that there is just one READING");
        String text = "thing t at 1;sign a m does t 1;sign b mm does t 1;sign c mom does t 1;weigh 0-(long>1)*9;";
        MeadowSigns x = told("size 12;" + text);
        due("plain() of an empty row", x.plain(), 0);
        lie("plain()", x, "");
        mow(x, 0, 3);
        due("plain(): a a is plain already", x.plain(), 0);
        lie("plain()", x, "");
        mow(x, 5);
        due("plain(): a a a, one of them away from the others", x.plain(), 2);
        lie("plain()", x, "3 8");
        // four at once, side by side: three are to go, and to come again
        MeadowSigns y = told("size 12;" + text);
        mow(y, 0, 1, 2, 3);
        due("taken()", y.taken(), 4);
        due("plain(): more than 3", y.plain(), -1);
        lie("plain()", y, "");
        MeadowSigns z = told("size 12;" + text);
        mow(z, 0, 1);
        due("plain()", z.plain(), 2);
        lie("plain(): a a", z, "0 4");
        MeadowSigns three = told("size 12;thing t at 1;sign a m does t 1;sign b mmm does t 1;sign c mm does t 1;never a a;"
            + "never a c;never c a;weigh long;");
        mow(three, 4, 5, 6);
        due("plain() of mmm, read in one way", three.plain(), 0);
    }

    private static void plainOrder() {
        by("PLAIN: the fewest CELLS CHANGED");
        MeadowSigns behind = told("size 9;thing t at 1;sign a m does t 1;sign b mm does t 1;");
        mow(behind, 0, 1);
        due("turn(0, 2)", behind.turn(0, 2), 0);
        due("plain() behind a turn()", behind.plain(), 2);
        lie("plain() behind a turn()", behind, "0 3");
        by("with the SIGNS of what is TAKEN now, in this order");
        // a b or c now, and a b is taken; by 1 mown it would be b b, by 0 sown b, by 4 sown nothing
        MeadowSigns x = told("size 9;thing t at 1;sign a m does t 1;sign b mm does t 1;sign c moomm does t 1;never b a;never a a;");
        mow(x, 0, 3, 4);
        due("readings()", x.readings(), 2);
        x.taken();
        lie("taken()", x, "0 31");
        due("plain()", x.plain(), 2);
        lie("plain()", x, "0 1");
        due("about(3)", x.about(3), 25);
        // b a is not a b
        MeadowSigns turned = told("size 4;thing t at 1;sign a m does t 1;sign b mm does t 1;never a a;weigh 5-place*(long=2);");
        mow(turned, 0, 1, 2);
        turned.taken();
        lie("taken()", turned, "1 20");
        due("readings(): b a, a b", turned.readings(), 2);
        due("plain()", turned.plain(), 2);
        lie("plain(): mm and m with a gap between", turned, "2 3");
        MeadowSigns y = new MeadowSigns();
        y.mow(0);
        due("plain() without a reading", y.plain(), -1);
    }

    private static void likeOnes() {
        by("(Both: of like ones the first, CELL by CELL.)");
        MeadowSigns x = told("size 20;" + ONES + "barn 0;barn 2;");
        due("turn(0, 4)", x.turn(0, 4), 2);
        lie("turn(0, 4)", x, "1 3");
        mow(x, 1, 3, 19);
        due("turn(0, 4)", x.turn(0, 4), 1);
        lie("turn(0, 4)", x, "1");
        due("turn(0, 5): as it is", x.turn(0, 5), 0);
        due("turn(0, 8)", x.turn(0, 8), 3);
        lie("turn(0, 8)", x, "4 5 6");
        due("turn(0, 2)", x.turn(0, 2), 3);
        lie("turn(0, 2)", x, "1 3 19");
        MeadowSigns y = told("size 6;thing t at 1;sign a m does t 1;sign b mm does t 1;weigh long*long;");
        mow(y, 0, 1);
        // a alone is plain: 0 sown, or 1 sown
        due("taken()", y.taken(), 1);
        due("plain() of b: mm is a a, too", y.plain(), -1);
        MeadowSigns z = told("size 5;thing t at 1;sign a m does t 1;sign b mm does t 1;");
        mow(z, 1, 2);
        due("taken(): a a", z.taken(), 2);
        due("plain()", z.plain(), 2);
        lie("plain(): 0 and 2 stay apart, and so would 1 and 3", z, "0 1");
    }

    private static void ordersOfSet() {
        by("ORDERS of a set of CELLS (8 at most, none MOWN, none with a BARN)");
        MeadowSigns x = told("size 20;" + ONES + "barn 19;");
        mow(x, 18);
        due("orders of 8", x.orders(255), 40320);
        lie("orders of 8", x, "0 1 2 3 4 5 6 7");
        due("orders of 9", x.orders(511), -1);
        lie("orders of 9", x, "");
        due("orders of one that is mown", x.orders(1 << 18), -1);
        due("orders of one that is mown beside others", x.orders(1 << 18 | 3), -1);
        due("orders of a barn", x.orders(1 << 19), -1);
        due("orders of a barn beside others", x.orders(1 << 19 | 3), -1);
        due("orders beyond the row", x.orders(1 << 20), -1);
        due("orders of the least int", x.orders(LEAST), -1);
        due("orders of the greatest int", x.orders(GREATEST), -1);
        due("orders(-1)", x.orders(-1), -1);
        due("orders of none", x.orders(0), 1);
        lie("orders of none", x, "");
        due("orders of the last that can be", x.orders(1 << 17), 1);
        lie("orders of the last that can be", x, "17");
        MeadowSigns y = told("size 4;");
        due("orders of the cell behind the last one", y.orders(16), -1);
        due("orders of the last one", y.orders(8), 1);
    }

    private static void ordersWithoutHarm() {
        by("in how many orders all of them can be mown, one by one, without HARM behind each of them");
        MeadowSigns x = told("size 9;" + TWO_HARM);
        due("orders(7)", x.orders(7), 2);
        lie("orders(7)", x, "0 2 1");
        due("orders(3): at the end there is harm", x.orders(3), 0);
        lie("orders(3)", x, "");
        due("orders(5)", x.orders(5), 2);
        due("orders(1)", x.orders(1), 1);
        // harm that is there ahead of the first one does not count, nor where nothing can be read
        mow(x, 0, 1);
        due("harm()", x.harm(), 1);
        due("orders(0), though there is harm", x.orders(0), 1);
        due("orders(4)", x.orders(4), 1);
        due("orders(16): harm stays", x.orders(16), 0);
        MeadowSigns y = told("size 6;thing t at 1;sign a mm does t 1;sign b mmm does t - 1;");
        due("orders(3): m alone has no reading, so no harm", y.orders(3), 2);
        due("orders(7): harm at the end", y.orders(7), 0);
        // not 0, 1, 2 nor 1, 2, 3 at once, ahead of the last one
        due("orders(15)", y.orders(15), 12);
        lie("orders(15)", y, "0 1 3 2");
    }

    private static void ordersFirst() {
        by("the first one (CELL by CELL).");
        MeadowSigns x = told("size 9;" + TWO_HARM);
        due("orders(7 << 6)", x.orders(7 << 6), 2);
        lie("orders(7 << 6)", x, "6 8 7");
        mow(x, 1);
        due("orders(1 + 4)", x.orders(1 + 4), 0);
        MeadowSigns y = told("size 9;" + TWO_HARM + "never c c;never a c;barn 1;");
        due("orders(1 + 4 + 32)", y.orders(1 + 4 + 32), 0);
        lie("orders(1 + 4 + 32)", y, "");
        due("orders(32 + 8)", y.orders(32 + 8), 2);
        lie("orders(32 + 8)", y, "3 5");
        // the first cell can't be the first one
        MeadowSigns z = told("size 9;" + TWO_HARM);
        mow(z, 0);
        due("orders(2 + 4)", z.orders(2 + 4), 1);
        lie("orders(2 + 4)", z, "2 1");
    }

    private static void writeInEmptyRow() {
        by("WRITE of 1 .. 3 SIGNS: where to mow these into an empty row (BARNS are there)");
        MeadowSigns x = told("size 4;" + ONES);
        mow(x, 0, 1, 2, 3);
        due("write(0, -1, -1), though all is mown", x.write(0, -1, -1), 1);
        lie("write(0, -1, -1)", x, "0");
        due("write(0, 0, -1)", x.write(0, 0, -1), 2);
        lie("write(0, 0, -1)", x, "0 1");
        due("write(0, 0, 0)", x.write(0, 0, 0), 3);
        lie("write(0, 0, 0)", x, "0 1 2");
        due("write of none", x.write(-1, -1, -1), -1);
        lie("write of none", x, "");
        // full: three of six letters in twenty cells, two in twelve, one in six
        String sixes = "thing t at 1;sign a moooom does t 1;";
        due("write of 18 cells in 20", told("size 20;" + sixes).write(0, 0, 0), 6);
        due("write of 18 cells in 17", told("size 17;" + sixes).write(0, 0, 0), -1);
        due("write of 18 cells in 18", told("size 18;" + sixes).write(0, 0, 0), 6);
        due("write of 12 cells in 12", told("size 12;" + sixes).write(0, 0, -1), 4);
        due("write of 12 cells in 11", told("size 11;" + sixes).write(0, 0, -1), -1);
        due("write of 6 cells in 6", told("size 6;" + sixes).write(0, -1, -1), 2);
        due("write of 6 cells in 5", told("size 5;" + sixes).write(0, -1, -1), -1);
    }

    private static void writeBarns() {
        by("with just these SIGNS there");
        MeadowSigns x = told("size 9;thing t at 1;sign a mom does t 1;sign b m does t 1;barn 4;");
        due("write(1, -1, -1): the barn says it", x.write(1, -1, -1), 1);
        lie("write(1, -1, -1)", x, "4");
        due("write(0, -1, -1): also b b", x.write(0, -1, -1), -1);
        MeadowSigns y = told("size 9;thing t at 1;sign a mom does t 1;barn 4;");
        due("write(0, -1, -1)", y.write(0, -1, -1), 2);
        lie("write(0, -1, -1)", y, "2");
        due("write(0, 0, -1)", y.write(0, 0, -1), 4);
        lie("write(0, 0, -1)", y, "0 4");
        due("write(0, 0, 0): one's o would be at 4, or one would stand beyond the row", y.write(0, 0, 0), -1);
        MeadowSigns z = told("size 9;thing t at 1;sign a mom does t 1;barn 0;barn 8;");
        due("write(0, -1, -1): the other barn would say something, too", z.write(0, -1, -1), -1);
        due("write(0, 0, -1)", z.write(0, 0, -1), 4);
        lie("write(0, 0, -1)", z, "0 6");
        due("write(0, 0, 0)", z.write(0, 0, 0), 6);
        lie("write(0, 0, 0)", z, "0 3 6");
    }

    private static void writeApart() {
        by("one behind the other, no CELL of one in another one, so that there is just one READING");
        MeadowSigns x = told("size 6;thing t at 1;sign a mom does t 1;sign b m does t 1;never b b;");
        due("write(0, -1, -1): b b is barred", x.write(0, -1, -1), 2);
        lie("write(0, -1, -1)", x, "0");
        due("write(1, 1, -1): never", x.write(1, 1, -1), -1);
        lie("write(1, 1, -1)", x, "");
        due("write(0, 1, -1): not b in a's o", x.write(0, 1, -1), 3);
        lie("write(0, 1, -1)", x, "0 3");
        due("write(0, 0, -1)", x.write(0, 0, -1), 4);
        lie("write(0, 0, -1)", x, "0 3");
        MeadowSigns y = told("size 6;thing t at 1;sign a mm does t 1;sign b m does t 1;sign c mom does t 1;");
        due("write(1, 1, -1): not beside, nor one between", y.write(1, 1, -1), 2);
        lie("write(1, 1, -1)", y, "0 3");
        due("write(1, 1, 1): no room", y.write(1, 1, 1), -1);
        due("write(0, -1, -1): b b is a reading, too", y.write(0, -1, -1), -1);
        MeadowSigns z = told("size 7;thing t at 1;sign a mm does t 1;sign b m does t 1;sign c mom does t 1;");
        due("write(1, 1, 1)", z.write(1, 1, 1), 3);
        lie("write(1, 1, 1)", z, "0 3 6");
    }

    private static void writeFirst() {
        by("the first (by first CELLS, SIGN by SIGN)");
        MeadowSigns x = told("size 20;thing t at 1;sign a mm does t 1;sign b mmm does t 1;sign c mmmm does t 1;");
        due("write(0, 1, -1): mmmmm is b a, too", x.write(0, 1, -1), 5);
        lie("write(0, 1, -1)", x, "0 3");
        due("write(1, 0, 1)", x.write(1, 0, 1), 8);
        lie("write(1, 0, 1)", x, "0 4 7");
        due("write(0, 0, -1): mmmm is c, too", x.write(0, 0, -1), 4);
        lie("write(0, 0, -1)", x, "0 3");
        due("write(2, -1, -1): a a", x.write(2, -1, -1), -1);
    }

    private static void watchCells() {
        by("WATCH: CELLS that are not MOWN, without a BARN, by each of which, mown, there would be HARM");
        MeadowSigns x = told("size 20;" + TWO_HARM + "barn 0;");
        due("watch(): beside the barn", x.watch(), 2);
        mow(x, 18);
        due("watch()", x.watch(), 2 + (1 << 17) + (1 << 19));
        mow(x, 1);
        due("harm()", x.harm(), 1);
        // there is harm already: all that do not end it; mown ones and the barn not
        due("watch()", x.watch(), (1 << 20) - 1 - 1 - 2 - 4 - (1 << 18));
        due("watch() without signs", new MeadowSigns().watch(), 0);
        MeadowSigns y = told("size 4;" + TWO_HARM);
        mow(y, 0, 1, 2, 3);
        due("watch() where all is mown", y.watch(), 0);
    }

    private static void cowsLess() {
        by("COWS: of all these CELLS those by which the THING gets less (by V's together) than by what is TAKEN now "
            + "(0, if nothing is).");
        MeadowSigns x = told("size 6;thing t at 1;thing u at 1;sign a mm does t 2;sign b mmm does t - 1;barn 0;");
        due("cows(0, 0): nothing is taken now; none gets below 0", x.cows(0, 0), 0);
        due("cows(0, 1)", x.cows(0, 1), 5);
        mow(x, 1);
        // now 2; by 2 it is -1, by the others nothing is taken: 0
        due("cows(0, 0)", x.cows(0, 0), 4);
        due("cows(1, 0): as much is not less", x.cows(1, 0), 0);
        due("cows(0, 1)", x.cows(0, 1), 4);
        MeadowSigns y = told("size 4;thing t at 1;sign a mm does t - 2;barn 0;");
        due("cows(0, 0): by 1 it gets -2, nothing is taken now", y.cows(0, 0), 1);
        mow(y, 1);
        due("cows(0, 0): 0 is more than -2", y.cows(0, 0), 0);
        mow(y, 2, 3);
        due("cows(0, 1) where all is mown", y.cows(0, 1), 0);
        due("cows(0, 0)", y.cows(0, 0), 0);
    }

    private static void duelSets() {
        by("DUEL for a THING of two with sets of CELLS (not MOWN, without BARNS, none of both)");
        MeadowSigns x = told("size 6;" + ONES + "barn 5;");
        mow(x, 4);
        due("duel(0, 1, 2, 0)", x.duel(0, 1, 2, 0), 4);
        due("duel: mine is mown", x.duel(0, 16, 2, 0), -10000);
        due("duel: his is mown", x.duel(0, 1, 16, 0), -10000);
        due("duel: one of mine is mown", x.duel(0, 1 + 16, 2, 0), -10000);
        due("duel: mine is a barn", x.duel(0, 32, 2, 0), -10000);
        due("duel: his is a barn", x.duel(0, 1, 32, 0), -10000);
        due("duel: one of both", x.duel(0, 3, 2, 0), -10000);
        due("duel: the same", x.duel(0, 1, 1, 0), -10000);
        due("duel: mine beyond the row", x.duel(0, 64, 2, 0), -10000);
        due("duel: his beyond the row", x.duel(0, 1, 64, 0), -10000);
        due("duel: all that can be", x.duel(0, 3, 12, 0), 4);
    }

    private static void duelValues() {
        by("so that V's together of what is TAKEN then (0, if nothing is) are least, the first one so that they are greatest; "
            + "of like ones the first CELLS.");
        MeadowSigns x = told("size 6;thing t at 1;sign a mm does t 3;sign b mom does t - 2;sign c moom does t 1;");
        // 0 and 1: 3; 0 and 2: -2; 0 and 3: 1; 0 and 4: nothing is taken, 0
        due("duel(0, 1, 2, 0)", x.duel(0, 1, 2, 0), 3);
        due("duel(0, 1, 2 + 4, 0)", x.duel(0, 1, 2 + 4, 0), -2);
        due("duel(0, 1, 2 + 4, 2)", x.duel(0, 1, 2 + 4, 2), 2);
        due("duel(0, 1, 2 + 8 + 16, 0): nothing is taken", x.duel(0, 1, 2 + 8 + 16, 0), 0);
        due("duel(0, 1, 2 + 8 + 16, 2)", x.duel(0, 1, 2 + 8 + 16, 2), 4);
        // 0: by 2 -2; 1: by 2 3, by 5 0; 3: by 2 3, by 5 -2
        due("duel(0, 1 + 2 + 8, 4 + 32, 0)", x.duel(0, 1 + 2 + 8, 4 + 32, 0), 0);
        due("duel(0, 1 + 2 + 8, 4 + 32, 1)", x.duel(0, 1 + 2 + 8, 4 + 32, 1), 1);
        due("duel(0, 1 + 2 + 8, 4 + 32, 2)", x.duel(0, 1 + 2 + 8, 4 + 32, 2), 5);
        // all alike: the first cells
        MeadowSigns y = told("size 20;" + ONES);
        due("duel of like ones", y.duel(0, 12, 1 << 19 | 1 << 18, 1), 2);
        due("duel of like ones", y.duel(0, 12, 1 << 19 | 1 << 18, 2), 18);
        due("duel of like ones", y.duel(1, 1 << 19, 3, 2), 0);
        due("duel of like ones", y.duel(1, 1 << 19, 3, 1), 19);
    }

    private static void turn() {
        by("TURN (V -99 .. 99): how many CELLS; NONE if 3 are not enough, or one can't be. They lie there then "
            + "(behind NONE: nothing).");
        MeadowSigns x = told("size 20;thing t at 1;sign a m does t 9;sign b mm does t - 9;weigh long=1 or year;");
        mow(x, 0, 1, 2, 3, 4, 5, 6, 7, 8, 9, 10);
        due("does(0)", x.does(0), 99);
        due("turn(0, 99)", x.turn(0, 99), 0);
        due("turn(0, 72)", x.turn(0, 72), 3);
        lie("turn(0, 72)", x, "0 1 2");
        due("turn(0, 63)", x.turn(0, 63), -1);
        lie("turn(0, 63)", x, "");
        mow(x, 11);
        x.taken();
        due("turn(0, 108), though it does that", x.turn(0, 108), -1);
        lie("turn(0, 108)", x, "");
        due("turn(0, 100)", x.turn(0, 100), -1);
        due("turn(0, 99)", x.turn(0, 99), 1);
        lie("turn(0, 99)", x, "0");
        due("turn(1, 99)", x.turn(1, 99), -1);
        lie("turn(1, 99)", x, "");
        x.taken();
        due("turn(-1, 99)", x.turn(-1, 99), -1);
        lie("turn(-1, 99)", x, "");
        due("turn of the least int", x.turn(0, LEAST), -1);
        due("turn of the greatest int", x.turn(GREATEST, 0), -1);
        MeadowSigns y = told("size 20;thing t at 1;sign a m does t - 9;");
        mow(y, 0, 1, 2, 3, 4, 5, 6, 7, 8, 9, 10);
        due("turn(0, -99)", y.turn(0, -99), 0);
        mow(y, 11);
        due("turn(0, -108), though it does that", y.turn(0, -108), -1);
        due("turn(0, -100)", y.turn(0, -100), -1);
        due("turn(0, -99)", y.turn(0, -99), 1);
        MeadowSigns full = told("size 20;thing t at 1;thing u at 1;sign a m does t 5;sign b mm does u 5;");
        MeadowSigns empty = told("size 20;thing t at 1;sign a m does t - 5;");
        for (int cell = 0; cell < 20; cell++) {
            full.mow(cell);
            empty.mow(cell);
        }
        due("does(0)", full.does(0), 100);
        due("turn(0, 100), though it does that", full.turn(0, 100), -1);
        due("does(0)", empty.does(0), -100);
        due("turn(0, -100), though it does that", empty.turn(0, -100), -1);
    }

    private static void plain() {
        by("PLAIN: how many CELLS; NONE if 3 are not enough, or there is no READING. They lie there then (behind NONE: nothing).");
        MeadowSigns x = told("size 9;thing t at 1;sign a m does t 1;sign b mm does t 1;");
        mow(x, 0, 2);
        due("plain()", x.plain(), 0);
        lie("plain()", x, "");
        mow(x, 1);
        due("plain(): a a a", x.plain(), 2);
        lie("plain()", x, "1 4");
        mow(x, 4, 5);
        due("taken(): a a a, a a", x.taken(), 5);
        due("plain() of five: two sown and two mown", x.plain(), -1);
        lie("plain()", x, "");
        mow(x, 6);
        x.sow(5);
        due("plain() of five, one of them to be moved", x.plain(), 2);
        lie("plain()", x, "1 8");
        mow(x, 5, 7);
        x.taken();
        due("plain() of seven: more than there is room for", x.plain(), -1);
        lie("plain()", x, "");
        MeadowSigns y = told("size 9;thing t at 1;sign a mm does t 1;");
        y.taken();
        y.mow(8);
        due("plain() without a reading", y.plain(), -1);
        lie("plain()", y, "");
    }

    private static void orders() {
        by("ORDERS: how many; NONE if one can't be. The first lies there then (behind 0, NONE: nothing).");
        MeadowSigns x = told("size 9;" + TWO_HARM);
        due("orders(7)", x.orders(7), 2);
        lie("orders(7)", x, "0 2 1");
        due("orders(3)", x.orders(3), 0);
        lie("orders(3)", x, "");
        due("orders(7)", x.orders(7), 2);
        due("orders(512)", x.orders(512), -1);
        lie("orders(512)", x, "");
        due("orders(7)", x.orders(7), 2);
        due("orders(0)", x.orders(0), 1);
        lie("orders(0)", x, "");
    }

    private static void write() {
        by("WRITE (a, b, c; NONE for b, c: none): how many m their SHAPES have together; NONE if it can't be, or one can't be. "
            + "First CELLS lie there then (behind NONE: nothing).");
        MeadowSigns x = told("size 20;thing t at 1;sign a moom does t 1;sign b mmm does t 1;");
        due("write(0, -1, -1)", x.write(0, -1, -1), 2);
        lie("write(0, -1, -1)", x, "0");
        due("write(0, 1, -1)", x.write(0, 1, -1), 5);
        lie("write(0, 1, -1)", x, "0 4");
        due("write(1, 1, 1)", x.write(1, 1, 1), 9);
        lie("write(1, 1, 1)", x, "0 3 6");
        due("write(1, -1, 1): no second, but a third", x.write(1, -1, 1), -1);
        lie("write(1, -1, 1)", x, "");
        int[][] wrong = {{2, -1, -1}, {-1, 0, 0}, {-1, -1, -1}, {-2, -1, -1}, {0, 2, -1}, {0, -2, -1}, {0, 0, 2}, {0, 0, -2},
            {LEAST, -1, -1}, {0, LEAST, -1}, {0, 0, LEAST}, {GREATEST, 0, 0}, {0, GREATEST, 0}, {0, 0, GREATEST}, {0, -2, 0},
            {8, -1, -1}, {0, 8, -1}, {0, 0, 8}, {0, -1, -2}, {0, -1, 2}};
        for (int[] row : wrong) {
            x.write(0, -1, -1);
            String call = "write(" + row[0] + ", " + row[1] + ", " + row[2] + ")";
            due(call, x.write(row[0], row[1], row[2]), -1);
            lie(call, x, "");
        }
        due("write without signs", new MeadowSigns().write(0, -1, -1), -1);
    }

    private static void watch() {
        by("WATCH, as bits.");
        MeadowSigns x = told("size 20;thing t at 1;sign a m does t - 1;");
        due("watch() of all", x.watch(), (1 << 20) - 1);
        MeadowSigns y = told("size 4;thing t at 1;sign a m does t - 1;barn 3;");
        due("watch() of all but the barn", y.watch(), 7);
        due("watch() of none", told("size 4;thing t at 1;sign a m does t 0;").watch(), 0);
    }

    private static void cows() {
        by("COWS the upper part (0), the lower part (1: all CELLS that are not MOWN, without a BARN); NONE if one can't be.");
        MeadowSigns x = told("size 20;thing t at 1;sign a m does t - 1;barn 3;");
        due("cows(0, 0)", x.cows(0, 0), 19);
        due("cows(0, 1)", x.cows(0, 1), 19);
        mow(x, 3, 4);
        due("cows(0, 0)", x.cows(0, 0), 18);
        due("cows(0, 1): one that is mown, and a barn that is", x.cows(0, 1), 18);
        due("cows(0, 2)", x.cows(0, 2), -1);
        due("cows(0, -1)", x.cows(0, -1), -1);
        due("cows(1, 0)", x.cows(1, 0), -1);
        due("cows(1, 1)", x.cows(1, 1), -1);
        due("cows(-1, 1)", x.cows(-1, 1), -1);
        due("cows of the least int", x.cows(LEAST, 1), -1);
        due("cows of the greatest int", x.cows(0, GREATEST), -1);
        due("cows without things", new MeadowSigns().cows(0, 1), -1);
    }

    private static void duel() {
        by("DUEL what 0: V's together, 1: the first one's CELL, 2: the other one's; -10000 if one can't be (an empty set, too).");
        MeadowSigns x = told("size 20;" + ONES);
        due("duel what 0", x.duel(0, 1, 1 << 19, 0), 2);
        due("duel what 1", x.duel(0, 1, 1 << 19, 1), 0);
        due("duel what 2", x.duel(0, 1, 1 << 19, 2), 19);
        due("duel what 3", x.duel(0, 1, 2, 3), -10000);
        due("duel what -1", x.duel(0, 1, 2, -1), -10000);
        due("duel: mine is empty", x.duel(0, 0, 2, 0), -10000);
        due("duel: his is empty", x.duel(0, 1, 0, 0), -10000);
        due("duel: both are empty", x.duel(0, 0, 0, 0), -10000);
        due("duel of no thing", x.duel(2, 1, 2, 0), -10000);
        due("duel of no thing", x.duel(-1, 1, 2, 0), -10000);
        due("duel of the least int", x.duel(0, LEAST, 2, 0), -10000);
        due("duel of the least int", x.duel(0, 1, LEAST, 0), -10000);
        due("duel of the greatest int", x.duel(0, 1, 2, GREATEST), -10000);
        due("duel of -1", x.duel(0, -1, 2, 0), -10000);
        due("duel without things", new MeadowSigns().duel(0, 1, 2, 0), -10000);
    }

    private static void lies() {
        by("The i-th number of what lies there; NONE if there is none such.");
        MeadowSigns x = told("size 20;" + ONES);
        due("lies(0) where nothing lies", x.lies(0), -1);
        for (int cell = 0; cell < 20; cell++) {
            x.mow(cell);
        }
        due("taken()", x.taken(), 20);
        due("about(14)", x.about(14), 20);
        due("lies(0)", x.lies(0), 0);
        due("lies(19)", x.lies(19), 190);
        due("lies(20)", x.lies(20), -1);
        due("lies(-1)", x.lies(-1), -1);
        due("lies of the least int", x.lies(LEAST), -1);
        due("lies of the greatest int", x.lies(GREATEST), -1);
        x.harm();
        x.watch();
        x.readings();
        x.undo();
        due("lies(19) stays behind what lays nothing", x.lies(19), 190);
        x.orders(0);
        due("lies(0) behind what lays nothing more", x.lies(0), -1);
    }
}
