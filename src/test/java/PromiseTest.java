/** Each promise by itself: ordinary calls, the edges that the document names, wrong inputs. */
public final class PromiseTest {
    /** a is mm, b is mom and takes away, c is m; a long sign weighs more. */
    private static final String LONG_WEIGHS =
        "size 7;thing t at 10;sign a mm does t 1;sign b mom does t - 2;sign c m does t 3;never b b;weigh long * 2;"
        + "grow age > 1;";

    private PromiseTest() {
    }

    public static void main(String[] args) {
        newObject();
        tape();
        newMeadow();
        thingsAndGlyphs();
        plots();
        acts();
        years();
        clamps();
        undoAndRedo();
        readings();
        formulas();
        never();
        ahead();
        harm();
        turn();
        plain();
        orders();
        write();
        watchAndCows();
        duel();
        lies();
        hearing();
        times();
        images();
        about();
        Calls.finish();
    }

    private static void due(String call, long got, long want) {
        Calls.due(call, got, want);
    }

    private static void due(String call, boolean got, boolean want) {
        Calls.due(call, got, want);
    }

    private static void mow(MeadowSigns x, int... cells) {
        Calls.mow(x, cells);
    }

    private static void newObject() {
        MeadowSigns x = new MeadowSigns();
        int[] want = {0, 0, 12, 0, 0, 0, 0, 0, 0, 0, 0, 0, 0, 0, 0};
        for (int i = 0; i < want.length; i++) {
            due("about(" + i + ") of a new object", x.about(i), want[i]);
        }
        due("fault(0)", x.fault(0), 0);
        due("fault(1)", x.fault(1), -1);
        due("readings()", x.readings(), 1);
        due("plot(11, 0)", x.plot(11, 0), 0);
        due("NONE", MeadowSigns.NONE, -1);
    }

    private static void tape() {
        MeadowSigns x = new MeadowSigns();
        for (int i = 1; i <= 80; i++) {
            due("feed", x.feed(0x20202020, 0x20202020, 0x20202020, 0x20202020, 0x20202020), 20 * i);
        }
        due("feed at 1600", x.feed(0, 0, 0, 0, 0), -1);
        due("about(12)", x.about(12), 1600);
        due("end(1601)", x.end(1601), -1);
        due("end(-1)", x.end(-1), -1);
        due("end(1600)", x.end(1600), 1600);
        due("end(1581)", x.end(1581), 1581);
        due("feed at 1581", x.feed(0, 0, 0, 0, 0), -1);
        due("end(1580)", x.end(1580), 1580);
        due("feed at 1580", x.feed(0x23202020, 0, 0, 0, 0), 1600);
        due("meadow()", x.meadow(), -1);
        due("fault(1)", x.fault(1), 1580);
        due("end(1580)", x.end(1580), 1580);
        due("meadow()", x.meadow(), 0);
        due("about(12)", x.about(12), 0);
        due("end(1)", x.end(1), -1);
        due("end(0)", x.end(0), 0);
        // "size 7;thing t at 1;" with the highest byte of each number first
        due("feed", x.feed(0x73697a65, 0x20373b74, 0x68696e67, 0x20742061, 0x7420313b), 20);
        due("meadow()", x.meadow(), 0);
        due("about(2)", x.about(2), 7);
        due("thing(0)", x.thing(0), 1);
    }

    private static void newMeadow() {
        MeadowSigns x = Calls.told(LONG_WEIGHS);
        mow(x, 0, 2);
        x.year();
        x.undo();
        x.taken();
        x.image(0);
        x.heard(0, 1, -1, true);
        x.later(5);
        Calls.feed(x, "thing s at 2;draw 12;");
        due("meadow()", x.meadow(), 0);
        int[] want = {0, 1, 12, 0, 0, 0, 0, 12, 0, 0, 0, 5, 0, 0, 0};
        for (int i = 0; i < want.length; i++) {
            due("about(" + i + ") of another meadow", x.about(i), want[i]);
        }
        due("back(0)", x.back(0), -1);
        due("undo()", x.undo(), false);
        due("redo()", x.redo(), false);
        due("lies(0)", x.lies(0), -1);
        due("untell(0)", x.untell(0), false);
        due("meadow() of an empty tape", x.meadow(), 0);
        due("about(1)", x.about(1), 0);
    }

    private static void thingsAndGlyphs() {
        MeadowSigns x = Calls.told("size 8;thing t at 0;thing u at 99;sign a moomom does u - 9;sign b m does t 9;");
        due("thing(0)", x.thing(0), 0);
        due("thing(1)", x.thing(1), 99);
        due("thing(2)", x.thing(2), -10000);
        due("thing(-1)", x.thing(-1), -10000);
        due("glyph(0, 0)", x.glyph(0, 0), 1 + 8 + 32);
        due("glyph(0, 1)", x.glyph(0, 1), 6);
        due("glyph(0, 2)", x.glyph(0, 2), 1);
        due("glyph(0, 3)", x.glyph(0, 3), -9);
        due("glyph(1, 3)", x.glyph(1, 3), 9);
        due("glyph(1, 4)", x.glyph(1, 4), 0);
        due("glyph(0, 5)", x.glyph(0, 5), -10000);
        due("glyph(0, -1)", x.glyph(0, -1), -10000);
        due("glyph(2, 0)", x.glyph(2, 0), -10000);
        due("glyph(-1, 4)", x.glyph(-1, 4), -10000);
        mow(x, 1, 7);
        due("glyph(1, 4)", x.glyph(1, 4), 2 + 128);
        MeadowSigns y = Calls.told("thing t at 0;sign a mm does t 1;");
        mow(y, 3);
        due("glyph(0, 4) without a reading", y.glyph(0, 4), 0);
    }

    private static void plots() {
        MeadowSigns x = Calls.told("size 5;thing t at 1;sign a mm does t 1;barn 4;");
        mow(x, 3);
        x.year();
        due("plot(3, 0)", x.plot(3, 0), 1);
        due("plot(3, 1)", x.plot(3, 1), 1);
        due("plot(3, 2)", x.plot(3, 2), 0);
        due("plot(3, 3)", x.plot(3, 3), 0);
        due("plot(4, 0)", x.plot(4, 0), 0);
        due("plot(4, 1)", x.plot(4, 1), -1);
        due("plot(4, 2)", x.plot(4, 2), 1);
        due("plot(4, 3)", x.plot(4, 3), -1);
        due("plot(4, 4)", x.plot(4, 4), -2);
        due("plot(4, -1)", x.plot(4, -1), -2);
        due("plot(5, 0)", x.plot(5, 0), -2);
        due("plot(-1, 0)", x.plot(-1, 0), -2);
        x.sow(3);
        due("plot(3, 3) without a reading", x.plot(3, 3), -1);
    }

    private static void acts() {
        MeadowSigns x = Calls.told("size 4;barn 1;");
        due("mow(1) at a barn", x.mow(1), 1);
        due("mow(3)", x.mow(3), 2);
        due("mow(4)", x.mow(4), -1);
        due("mow(-1)", x.mow(-1), -1);
        due("about(8)", x.about(8), 2);
        x.year();
        due("plot(3, 1)", x.plot(3, 1), 1);
        due("mow(3) again", x.mow(3), 2);
        due("plot(3, 1)", x.plot(3, 1), 0);
        due("plot(1, 1)", x.plot(1, 1), 1);
        due("sow(3)", x.sow(3), 1);
        due("sow(3)", x.sow(3), -1);
        due("sow(4)", x.sow(4), -1);
        due("sow(-1)", x.sow(-1), -1);
        due("sow(1)", x.sow(1), 0);
        due("plot(1, 2)", x.plot(1, 2), 1);
        due("about(8)", x.about(8), 6);
    }

    private static void years() {
        // 3 * 137 + 71 = 482: a tenth is even, and 482 by 5 leaves 2
        MeadowSigns x = Calls.told("size 5;thing t at 10;sign a m does t 2;draw 3;grow age>1 and dry=6 or place=4;");
        mow(x, 0, 4);
        due("year()", x.year(), 2);
        due("thing(0)", x.thing(0), 14);
        due("about(3): cows at 2, grass at 4", x.about(3), 5);
        due("about(6)", x.about(6), 1);
        due("about(7)", x.about(7), 482);
        due("plot(2, 1)", x.plot(2, 1), 1);
        // 482 * 137 + 71 = 66105: 105, a tenth is even, at 0; dry is 1
        due("year()", x.year(), 2);
        due("about(3)", x.about(3), 5);
        due("plot(0, 1), mown by cows again", x.plot(0, 1), 1);
        due("plot(2, 1)", x.plot(2, 1), 2);
        MeadowSigns y = Calls.told("thing t at 5;sign a mm does t 1;draw 1;");
        mow(y, 6);
        // 208: a tenth is even, 208 by 12 leaves 4
        due("year() without a reading", y.year(), -1);
        due("thing(0)", y.thing(0), 5);
        due("about(6)", y.about(6), 1);
        due("about(3)", y.about(3), 64 + 16);
        due("plot(6, 1)", y.plot(6, 1), 1);
        MeadowSigns dry = Calls.told("size 5;draw 3;grow dry=4 and place=0;");
        mow(dry, 0, 1);
        dry.year();
        due("about(3): a hundredth of 482 is 4", dry.about(3), 2 + 4);
        MeadowSigns z = Calls.told("size 4;grow year=2 and place=age;");
        mow(z, 0, 1, 2, 3);
        z.year();
        due("about(3)", z.about(3), 15);
        z.year();
        due("about(3)", z.about(3), 11);
    }

    private static void clamps() {
        MeadowSigns x = Calls.told("size 4;thing t at 99;thing u at 0;sign a m does t 9;sign b mm does u - 9;"
            + "weigh long*long;");
        mow(x, 0, 2, 3);
        for (int i = 0; i < 99; i++) {
            x.year();
            mow(x, 0, 2, 3);
            x.sow(1);
        }
        due("thing(0)", x.thing(0), 99 + 9 * 99);
        due("thing(1)", x.thing(1), -9 * 99);
        for (int i = 0; i < 14; i++) {
            x.year();
            x.sow(1);
        }
        due("thing(0)", x.thing(0), 999);
        due("thing(1)", x.thing(1), -999);
        // up to 999 and then down again, sign by sign from the first on
        MeadowSigns y = Calls.told("size 4;thing t at 99;sign a m does t 9;sign b mm does t - 4;weigh long*long;");
        mow(y, 0);
        for (int i = 0; i < 105; i++) {
            y.sow(1);
            y.sow(2);
            y.sow(3);
            y.mow(0);
            y.year();
        }
        y.sow(1);
        due("thing(0)", y.thing(0), 999);
        mow(y, 2, 3);
        due("does(0)", y.does(0), 5);
        due("will(0, 1)", y.will(0, 1), 995);
    }

    private static void undoAndRedo() {
        MeadowSigns x = Calls.told("size 20;thing t at 1;sign a m does t 1;draw 4;");
        due("undo()", x.undo(), false);
        due("redo()", x.redo(), false);
        for (int i = 0; i < 50; i++) {
            x.mow(i % 20);
        }
        due("about(8)", x.about(8), 40);
        for (int i = 0; i < 40; i++) {
            due("undo()", x.undo(), true);
        }
        due("undo() of the 41st", x.undo(), false);
        due("about(3)", x.about(3), (1 << 10) - 1);
        due("about(8)", x.about(8), 0);
        due("about(9)", x.about(9), 40);
        due("redo()", x.redo(), true);
        due("about(3)", x.about(3), (1 << 11) - 1);
        due("mow(99) is no act", x.mow(99), -1);
        due("about(9)", x.about(9), 39);
        x.year();
        due("about(9)", x.about(9), 0);
        due("redo()", x.redo(), false);
        due("about(8)", x.about(8), 2);
        due("thing(0)", x.thing(0), 12);
        due("undo()", x.undo(), true);
        due("thing(0)", x.thing(0), 1);
        due("about(6)", x.about(6), 0);
        due("about(7)", x.about(7), 4);
        due("plot(0, 1)", x.plot(0, 1), 0);
        due("redo()", x.redo(), true);
        due("plot(0, 1)", x.plot(0, 1), 1);
        due("about(7)", x.about(7), 619);
    }

    private static void readings() {
        MeadowSigns x = Calls.told(LONG_WEIGHS);
        due("readings()", x.readings(), 1);
        due("taken()", x.taken(), 0);
        due("weight()", x.weight(), 0);
        mow(x, 0, 1, 3);
        // mmom: a c, a(mm) c; c b; c c c
        due("readings()", x.readings(), 3);
        due("taken()", x.taken(), 2);
        Calls.lies("taken()", x, "2 11");
        due("weight()", x.weight(), 8);
        due("does(0)", x.does(0), 1);
        due("does(1)", x.does(1), -10000);
        due("does(-1)", x.does(-1), -10000);
        // all weights are alike: the sign of the least number at the first cell where they are unlike
        MeadowSigns y = Calls.told("size 4;thing t at 1;sign a mm does t 1;sign b m does t 1;sign c mmm does t 1;weigh 0;");
        mow(y, 0, 1, 2);
        due("readings()", y.readings(), 4);
        due("taken()", y.taken(), 2);
        Calls.lies("taken()", y, "0 21");
        // 8 signs of one letter at 20 cells: far more than a million
        StringBuilder many = new StringBuilder("size 20;thing t at 0;");
        for (int i = 0; i < 8; i++) {
            many.append("sign ").append((char) ('a' + i)).append(" m does t 9;");
        }
        MeadowSigns z = Calls.told(many.toString());
        for (int cell = 0; cell < 6; cell++) {
            z.mow(cell);
        }
        due("readings()", z.readings(), 262144);
        z.mow(6);
        due("readings()", z.readings(), 1000000);
        for (int cell = 7; cell < 20; cell++) {
            z.mow(cell);
        }
        due("readings()", z.readings(), 1000000);
        due("taken()", z.taken(), 20);
        due("lies(19)", z.lies(19), 190);
        due("does(0)", z.does(0), 180);
        MeadowSigns none = Calls.told("thing t at 1;sign a mm does t 1;barn 3;");
        due("readings()", none.readings(), 0);
        due("taken()", none.taken(), -1);
        due("about(14)", none.about(14), 0);
        due("weight()", none.weight(), -10000);
        due("does(0)", none.does(0), 0);
    }

    private static int weightBy(String e) {
        MeadowSigns x = Calls.told("size 4;thing t at 7;sign a m does t 1;weigh " + e + ";");
        x.mow(2);
        return x.weight();
    }

    private static void formulas() {
        due("2+3*4", weightBy("2+3*4"), 14);
        due("(2+3)*4", weightBy("(2+3)*4"), 20);
        due("20-5-3", weightBy("20-5-3"), 12);
        due("40/4/3", weightBy("40/4/3"), 3);
        due("(0-7)/2", weightBy("(0-7)/2"), -3);
        due("(0-7)%2", weightBy("(0-7)%2"), -1);
        due("7/0", weightBy("7/0"), 0);
        due("7%0", weightBy("7%0"), 0);
        due("100", weightBy("100"), 99);
        due("0-100", weightBy("0-100"), -99);
        due("5 and 0 or 3", weightBy("5 and 0 or 3"), 1);
        due("5 and 3", weightBy("5 and 3"), 1);
        due("0 or 0", weightBy("0 or 0"), 0);
        due("not 5", weightBy("not 5"), 0);
        due("not 0 + 1", weightBy("not 0 + 1"), 0);
        due("not 1 > 2", weightBy("not 1 > 2"), 1);
        due("not not 9", weightBy("not not 9"), 1);
        due("1 < 2", weightBy("1 < 2"), 1);
        due("2 < 2", weightBy("2 < 2"), 0);
        due("2 = 1 + 1", weightBy("2 = 1 + 1"), 1);
        due("place", weightBy("place"), 2);
        due("long", weightBy("long"), 1);
        due("much", weightBy("much"), 7);
        due("year", weightBy("year"), 0);
        due("age + dry", weightBy("age + dry"), 0);
        // 9999 three times is above what an int holds: 999700029999 wraps to -1019553713 or so, then its rest
        due("wrapping", weightBy("9999*9999*9999%97"), 9999 * 9999 * 9999 % 97);
        due("the least int by -1", weightBy("(0-32*8192*8192)/(0-1)%99"), Integer.MIN_VALUE % 99);
        MeadowSigns x = Calls.told("size 4;thing t at 7;sign a m does t 1;weigh year*10+much;grow long+much+0*age;");
        x.mow(2);
        x.year();
        x.sow(1);
        due("weight()", x.weight(), 18);
        due("about(3), as long and much are 0 for grass", x.about(3), 4);
        due("about(13)", x.about(13), 7);
    }

    private static void never() {
        MeadowSigns x = Calls.told("size 8;thing t at 1;sign a m does t 1;sign b m does t 2;never a a;never b b;");
        mow(x, 0, 3);
        due("readings(), gaps between", x.readings(), 2);
        due("taken()", x.taken(), 2);
        Calls.lies("taken()", x, "0 31");
        mow(x, 7);
        due("readings(): aba, bab", x.readings(), 2);
        MeadowSigns y = Calls.told("size 8;thing t at 1;sign a m does t 1;never a a;");
        mow(y, 0, 7);
        due("readings()", y.readings(), 0);
    }

    private static void ahead() {
        MeadowSigns x = Calls.told(LONG_WEIGHS);
        mow(x, 0, 2);
        due("will(0, 0)", x.will(0, 0), 10);
        due("will(0, 1)", x.will(0, 1), 8);
        due("will(0, 2)", x.will(0, 2), 6);
        due("will(0, 60)", x.will(0, 60) == -10000, false);
        due("will(0, 61)", x.will(0, 61), -10000);
        due("will(0, -1)", x.will(0, -1), -10000);
        due("will(1, 0)", x.will(1, 0), -10000);
        due("field(0)", x.field(0), 5);
        due("field(1)", x.field(1), 5);
        due("field(2)", x.field(2), 0);
        due("field(60)", x.field(60) >= 0, true);
        due("field(61)", x.field(61), -1);
        due("field(-1)", x.field(-1), -1);
        due("about(6)", x.about(6), 0);
        due("about(3)", x.about(3), 5);
        due("about(8)", x.about(8), 2);
    }

    private static void harm() {
        MeadowSigns x = Calls.told(LONG_WEIGHS);
        due("harm()", x.harm(), 0);
        mow(x, 0, 2);
        due("harm()", x.harm(), 1);
        mow(x, 1);
        due("harm(): mmm is read as a c", x.harm(), 0);
        MeadowSigns y = Calls.told("thing t at 1;sign a mm does t - 1;");
        mow(y, 4);
        due("harm() without a reading", y.harm(), 0);
        mow(y, 5);
        due("harm()", y.harm(), 1);
    }

    private static void turn() {
        MeadowSigns x = Calls.told(LONG_WEIGHS);
        mow(x, 0, 2);
        due("turn(0, -2)", x.turn(0, -2), 0);
        Calls.lies("turn(0, -2)", x, "");
        due("turn(0, 3)", x.turn(0, 3), 1);
        Calls.lies("turn(0, 3)", x, "0");
        due("turn(0, 6)", x.turn(0, 6), 2);
        Calls.lies("turn(0, 6)", x, "0 5");
        due("turn(0, 99)", x.turn(0, 99), -1);
        Calls.lies("turn(0, 99)", x, "");
        x.taken();
        due("turn(0, 100)", x.turn(0, 100), -1);
        Calls.lies("turn(0, 100)", x, "");
        due("turn(0, -100)", x.turn(0, -100), -1);
        x.taken();
        due("turn(1, 0)", x.turn(1, 0), -1);
        Calls.lies("turn(1, 0)", x, "");
        due("about(3)", x.about(3), 5);
        // a barn's cell is never changed; four cells would be needed
        MeadowSigns y = Calls.told("size 5;thing t at 1;sign a m does t 1;barn 1;");
        due("turn(0, 4)", y.turn(0, 4), 3);
        Calls.lies("turn(0, 4)", y, "0 2 3");
        due("turn(0, 5)", y.turn(0, 5), -1);
        due("turn(0, 0)", y.turn(0, 0), -1);
        MeadowSigns full = Calls.told("size 20;thing t at 1;sign a m does t 5;");
        for (int cell = 0; cell < 20; cell++) {
            full.mow(cell);
        }
        due("does(0)", full.does(0), 100);
        due("turn(0, 100), though it does that", full.turn(0, 100), -1);
        due("turn(0, 95)", full.turn(0, 95), 1);
        MeadowSigns z = Calls.told("size 5;thing t at 1;sign a mm does t 1;");
        mow(z, 4);
        due("turn(0, 0): there must be a reading", z.turn(0, 0), 1);
        Calls.lies("turn(0, 0)", z, "4");
    }

    private static void plain() {
        MeadowSigns x = Calls.told("size 5;thing t at 1;sign a mm does t 1;sign b m does t 1;sign c mom does t 2;weigh 0;");
        due("plain()", x.plain(), 0);
        mow(x, 0, 1);
        // a or b b is read; a is taken, but mm can always be read as b b too
        due("plain()", x.plain(), -1);
        Calls.lies("plain()", x, "");
        MeadowSigns y = Calls.told("size 6;thing t at 1;sign a mm does t 1;sign b m does t 1;sign c mom does t 2;");
        mow(y, 0, 2);
        due("readings()", y.readings(), 2);
        due("taken()", y.taken(), 2);
        due("plain(): b b, not beside one another, nor over one", y.plain(), 2);
        Calls.lies("plain()", y, "0 5");
        MeadowSigns z = Calls.told("size 5;thing t at 1;sign a mm does t 1;");
        mow(z, 0);
        due("plain() without a reading", z.plain(), -1);
        due("about(8)", z.about(8), 1);
    }

    private static void orders() {
        MeadowSigns x = Calls.told("size 9;thing t at 1;sign a mm does t 9;sign b m does t - 1;sign c mom does t 1;"
            + "weigh long*long;barn 8;");
        due("orders(0)", x.orders(0), 1);
        Calls.lies("orders(0)", x, "");
        // the barn alone is read as b: HARM, till 7 or 6 is mown
        due("orders(1)", x.orders(1), 0);
        Calls.lies("orders(1)", x, "");
        due("orders(128)", x.orders(128), 1);
        Calls.lies("orders(128)", x, "7");
        due("orders(256): a barn", x.orders(256), -1);
        due("orders(512): no cell", x.orders(512), -1);
        due("orders(-1)", x.orders(-1), -1);
        mow(x, 7);
        due("orders(128): mown", x.orders(128), -1);
        MeadowSigns y = Calls.told("size 9;thing t at 1;sign a m does t 1;sign b mm does t - 1;sign c mmm does t 1;"
            + "weigh long*long;");
        // two beside one another do harm, so both outer ones come first
        due("orders(7)", y.orders(7), 2);
        Calls.lies("orders(7)", y, "0 2 1");
        due("orders(255)", y.orders(255) >= 0, true);
        due("orders(511): nine", y.orders(511), -1);
        due("about(14)", y.about(14), 0);
        MeadowSigns z = Calls.told("size 9;thing t at 1;sign a m does t 1;");
        due("orders(255)", z.orders(255), 40320);
        Calls.lies("orders(255)", z, "0 1 2 3 4 5 6 7");
    }

    private static void write() {
        MeadowSigns x = Calls.told(LONG_WEIGHS);
        mow(x, 6);
        due("write(2, -1, -1)", x.write(2, -1, -1), 1);
        Calls.lies("write(2, -1, -1)", x, "0");
        due("write(0, -1, -1): also c c", x.write(0, -1, -1), -1);
        Calls.lies("write(0, -1, -1)", x, "");
        due("write(2, 2, 2): not beside one another, nor over one", x.write(2, 2, 2), 3);
        Calls.lies("write(2, 2, 2)", x, "0 3 6");
        due("write(2, -1, 2)", x.write(2, -1, 2), -1);
        due("write(3, -1, -1)", x.write(3, -1, -1), -1);
        due("write(-1, -1, -1)", x.write(-1, -1, -1), -1);
        due("write(2, 3, -1)", x.write(2, 3, -1), -1);
        due("write(2, -2, -1)", x.write(2, -2, -1), -1);
        due("write(2, 2, 3)", x.write(2, 2, 3), -1);
        due("write(2, 2, -2)", x.write(2, 2, -2), -1);
        due("about(3)", x.about(3), 64);
        MeadowSigns y = Calls.told("size 9;thing t at 1;sign a mom does t 1;sign b mm does t 1;never b a;barn 4;");
        due("write(0, -1, -1): the barn is its first or its last m", y.write(0, -1, -1), 2);
        Calls.lies("write(0, -1, -1)", y, "2");
        due("write(1, -1, -1)", y.write(1, -1, -1), 2);
        Calls.lies("write(1, -1, -1)", y, "3");
        due("write(0, 1, -1)", y.write(0, 1, -1), 4);
        Calls.lies("write(0, 1, -1)", y, "0 3");
        due("write(1, 0, -1): never", y.write(1, 0, -1), -1);
        due("write(0, 0, 0): the barn would be the second one's o", y.write(0, 0, 0), -1);
        MeadowSigns z = Calls.told("size 4;thing t at 1;sign a mm does t 1;barn 0;barn 3;");
        due("write(0, -1, -1): both barns can't be in it", z.write(0, -1, -1), -1);
        due("write(0, 0, -1)", z.write(0, 0, -1), 4);
        Calls.lies("write(0, 0, -1)", z, "0 2");
        due("write(0, 0, 0): no room", z.write(0, 0, 0), -1);
    }

    private static void watchAndCows() {
        MeadowSigns x = Calls.told(LONG_WEIGHS);
        mow(x, 0);
        // c is read; 2 makes mom; 1 makes mm; the others are one more c
        due("watch()", x.watch(), 4);
        due("cows(0, 0): 1 by mm, 2 by mom", x.cows(0, 0), 2);
        due("cows(0, 1)", x.cows(0, 1), 6);
        due("cows(0, 2)", x.cows(0, 2), -1);
        due("cows(0, -1)", x.cows(0, -1), -1);
        due("cows(1, 0)", x.cows(1, 0), -1);
        due("cows(-1, 1)", x.cows(-1, 1), -1);
        MeadowSigns y = Calls.told("size 6;thing t at 1;sign a mm does t 2;sign b mmm does t - 1;barn 0;");
        mow(y, 1);
        // 2 makes mmm: HARM and less; 3, 4 and 5 leave no reading: 0 is less too
        due("watch()", y.watch(), 4);
        due("cows(0, 0)", y.cows(0, 0), 4);
        due("cows(0, 1)", y.cows(0, 1), 4);
        MeadowSigns z = Calls.told("size 5;thing t at 1;sign a mm does t - 2;barn 0;");
        // nothing can be read now: 0; by 1 it is less
        due("cows(0, 0)", z.cows(0, 0), 1);
        due("cows(0, 1)", z.cows(0, 1), 4);
        due("about(3)", z.about(3), 0);
    }

    private static void duel() {
        MeadowSigns x = Calls.told("size 6;thing t at 1;thing u at 1;sign a m does t 2;sign b mm does t - 3;"
            + "sign c mom does t 1;weigh long*long;barn 5;");
        // first 0: then 1 gives mm and a: -3 + 2; 3 gives a and mom: 2 + 1
        due("duel(0, 1, 10, 0)", x.duel(0, 1, 10, 0), -1);
        due("duel(0, 1, 10, 1)", x.duel(0, 1, 10, 1), 0);
        due("duel(0, 1, 10, 2)", x.duel(0, 1, 10, 2), 1);
        due("duel(0, 1, 10, 3)", x.duel(0, 1, 10, 3), -10000);
        due("duel(0, 1, 10, -1)", x.duel(0, 1, 10, -1), -10000);
        due("duel(2, 1, 10, 0)", x.duel(2, 1, 10, 0), -10000);
        due("duel(0, 3, 10, 0)", x.duel(0, 3, 10, 0), -10000);
        due("duel(0, 0, 10, 0)", x.duel(0, 0, 10, 0), -10000);
        due("duel(0, 1, 0, 0)", x.duel(0, 1, 0, 0), -10000);
        due("duel(0, 32, 1, 0)", x.duel(0, 32, 1, 0), -10000);
        due("duel(0, 1, 64, 0)", x.duel(0, 1, 64, 0), -10000);
        due("duel(0, -1, 0, 0)", x.duel(0, -1, 0, 0), -10000);
        due("duel(1, 5, 10, 0): all are alike", x.duel(1, 5, 10, 0), 0);
        due("duel(1, 6, 24, 1)", x.duel(1, 6, 24, 1), 1);
        due("duel(1, 6, 24, 2)", x.duel(1, 6, 24, 2), 3);
        mow(x, 0);
        due("duel(0, 1, 10, 0): mown", x.duel(0, 1, 10, 0), -10000);
        due("duel(0, 10, 1, 0): mown", x.duel(0, 10, 1, 0), -10000);
    }

    private static void lies() {
        MeadowSigns x = Calls.told(LONG_WEIGHS);
        mow(x, 0, 4);
        x.taken();
        due("lies(0)", x.lies(0), 2);
        due("lies(1)", x.lies(1), 42);
        due("lies(2)", x.lies(2), -1);
        due("lies(-1)", x.lies(-1), -1);
        due("about(14)", x.about(14), 2);
        x.year();
        x.watch();
        x.undo();
        due("lies(1) stays", x.lies(1), 42);
    }

    private static void hearing() {
        StringBuilder text = new StringBuilder("thing t at 1;");
        for (int i = 0; i < 5; i++) {
            text.append("sign ").append((char) ('a' + i)).append(" m does t 1;");
        }
        MeadowSigns x = Calls.told(text.toString());
        due("fit(0)", x.fit(0), 65536);
        due("ask(0, 0)", x.ask(0, 0), 0);
        due("ask(1, 0)", x.ask(1, 0), 32768);
        due("ask(2, 0)", x.ask(2, 0), -1);
        due("ask(-1, 0)", x.ask(-1, 0), -1);
        due("heard(4, 0, -1, true)", x.heard(4, 0, -1, true), -1);
        due("heard(0, 4, -1, true)", x.heard(0, 4, -1, true), -1);
        due("heard(0, 0, 4, true)", x.heard(0, 0, 4, true), -1);
        due("heard(0, 0, -2, true)", x.heard(0, 0, -2, true), -1);
        due("heard(-1, 0, -1, true)", x.heard(-1, 0, -1, true), -1);
        due("about(10)", x.about(10), 0);
        due("heard(0, 1, 2, false)", x.heard(0, 1, 2, false), 0);
        due("fit(0)", x.fit(0), 65536 / 4 * 3);
        due("sure(0, 1, 0)", x.sure(0, 1, 0), -2);
        // whether 0 1 makes sense leaves 1 or 2 of 3 parts; any other pair halves
        due("ask(0, 0)", x.ask(0, 0), 0);
        due("heard(3, 3, 3, true)", x.heard(3, 3, 3, true), 1);
        due("sure(3, 3, 0)", x.sure(3, 3, 0), 1);
        due("heard(0, 1, -1, true)", x.heard(0, 1, -1, true), 2);
        due("sure(1, 2, 0)", x.sure(1, 2, 0), 0);
        due("fit(0)", x.fit(0), 8192);
        due("sure(4, 0, 0)", x.sure(4, 0, 0), -1);
        due("sure(0, -1, 0)", x.sure(0, -1, 0), -1);
        due("heard(1, 2, -1, true)", x.heard(1, 2, -1, true), 3);
        due("fit(0)", x.fit(0), 0);
        due("sure(0, 0, 0) without a grammar", x.sure(0, 0, 0), -1);
        due("ask(0, 0) without a grammar", x.ask(0, 0), -1);
        for (int i = 4; i < 30; i++) {
            due("heard", x.heard(0, 0, -1, true), i);
        }
        due("heard beyond 30", x.heard(0, 0, -1, true), -1);
        due("untell(3)", x.untell(3), true);
        due("heard beyond 30, one untold", x.heard(0, 0, -1, true), -1);
        due("about(10)", x.about(10), 30);
        due("fit(0)", x.fit(0), 4096);
        MeadowSigns y = Calls.told("thing t at 1;sign a m does t 1;");
        due("fit(0)", y.fit(0), 2);
        y.heard(0, 0, -1, true);
        due("fit(0)", y.fit(0), 1);
        due("ask(0, 0), though all is known", y.ask(0, 0), 0);
        due("ask(1, 0)", y.ask(1, 0), 1);
        MeadowSigns z = new MeadowSigns();
        due("fit(0) without signs", z.fit(0), 1);
        due("ask(0, 0) without signs", z.ask(0, 0), -1);
        due("sure(0, 0, 0) without signs", z.sure(0, 0, 0), -1);
    }

    private static void times() {
        MeadowSigns x = Calls.told(LONG_WEIGHS);
        due("later(0)", x.later(0), 0);
        due("later(-1)", x.later(-1), -1);
        due("later(1001)", x.later(1001), -1);
        due("later(3)", x.later(3), 3);
        x.heard(0, 1, -1, true);
        due("fit(2)", x.fit(2), 512);
        due("fit(3)", x.fit(3), 256);
        due("later(2)", x.later(2), 5);
        due("untell(1)", x.untell(1), false);
        due("untell(-1)", x.untell(-1), false);
        due("untell(0)", x.untell(0), true);
        due("untell(0)", x.untell(0), false);
        due("fit(4)", x.fit(4), 256);
        due("fit(5)", x.fit(5), 512);
        due("sure(0, 1, 4)", x.sure(0, 1, 4), 1);
        due("sure(0, 1, 5)", x.sure(0, 1, 5), -2);
        due("ask(0, 4)", x.ask(0, 4), 0);
        due("ask(1, 4)", x.ask(1, 4), 128);
        x.heard(1, 1, -1, false);
        due("fit of the last time", x.fit(Integer.MAX_VALUE), 256);
        due("fit of the first time", x.fit(Integer.MIN_VALUE), 512);
        due("untell(1) at the same time", x.untell(1), true);
        due("fit(5)", x.fit(5), 512);
        due("fit of the last time", x.fit(Integer.MAX_VALUE), 512);
        for (int i = 0; i < 99; i++) {
            x.later(1000);
        }
        due("about(11)", x.about(11), 99005);
        due("later(996)", x.later(996), -1);
        due("later(995)", x.later(995), 100000);
        due("later(1)", x.later(1), -1);
        due("about(11)", x.about(11), 100000);
    }

    private static void images() {
        MeadowSigns x = Calls.told("size 6;thing t at 10;sign a m does t 2;draw 3;");
        due("image(3)", x.image(3), -1);
        due("image(-1)", x.image(-1), -1);
        due("back(0)", x.back(0), -1);
        due("back(3)", x.back(3), -1);
        due("back(-1)", x.back(-1), -1);
        mow(x, 1);
        x.year();
        due("image(2)", x.image(2), 1);
        int mown = x.about(3);
        int seed = x.about(7);
        x.year();
        x.year();
        x.undo();
        x.taken();
        due("about(8)", x.about(8), 3);
        due("about(9)", x.about(9), 1);
        due("back(1)", x.back(1), -1);
        due("about(9)", x.about(9), 1);
        due("back(2)", x.back(2), 1);
        due("about(3)", x.about(3), mown);
        due("about(6)", x.about(6), 1);
        due("about(7)", x.about(7), seed);
        due("about(8)", x.about(8), 0);
        due("about(9)", x.about(9), 0);
        due("thing(0)", x.thing(0), 12);
        due("plot(1, 1)", x.plot(1, 1), 1);
        due("undo()", x.undo(), false);
        due("redo()", x.redo(), false);
        x.mow(5);
        due("undo()", x.undo(), true);
        due("about(3)", x.about(3), mown);
        due("back(2) again", x.back(2), 1);
    }

    private static void about() {
        MeadowSigns x = Calls.told("size 9;thing t at 1;thing u at 2;sign a m does t 1;sign b mm does u 1;sign c m does u 2;"
            + "never a b;never b a;barn 3;barn 8;weigh (1+long)*2;grow age>2;draw 44;");
        x.feed(0, 0, 0, 0, 0);
        mow(x, 0, 5, 6);
        x.year();
        x.year();
        x.undo();
        x.heard(0, 1, -1, true);
        x.later(7);
        x.taken();
        int[] want = {3, 2, 9, x.field(0), 256 + 8, 2, 1, (44 * 137 + 71) % 1000, 4, 1, 1, 7, 20, 6, x.taken()};
        for (int i = 0; i < want.length; i++) {
            due("about(" + i + ")", x.about(i), want[i]);
        }
        due("about(15)", x.about(15), -1);
        due("about(-1)", x.about(-1), -1);
    }
}
