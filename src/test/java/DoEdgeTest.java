/** Each sentence that names a boundary of cells, readings, formulas and years (section 2, promises 6 to 20), by itself. */
public final class DoEdgeTest {
    private static final int LEAST = Integer.MIN_VALUE;
    private static final int GREATEST = Integer.MAX_VALUE;

    private DoEdgeTest() {
    }

    public static void main(String[] args) {
        cellsAtFirst();
        looksMown();
        readToTheEnd();
        never();
        weightUntold();
        weightLimits();
        inputsOfWeigh();
        greatestTogether();
        firstOfLikeOnes();
        wrapping();
        divisions();
        truth();
        untoldInputs();
        amountLimits();
        mownAgain();
        yearWithoutReading();
        seeds();
        cows();
        grass();
        inputsOfGrow();
        undoAndRedo();
        fortyKept();
        thing();
        glyph();
        plot();
        mow();
        sow();
        yearSigns();
        yearRefused();
        undo();
        redo();
        readings();
        taken();
        weight();
        does();
        will();
        field();
        harm();
        Calls.finish();
    }

    private static void by(String words) {
        Calls.by(words);
    }

    private static void due(String call, long got, long want) {
        Calls.due(call, got, want);
    }

    private static void due(String call, boolean got, boolean want) {
        Calls.due(call, got, want);
    }

    private static MeadowSigns told(String text) {
        return Calls.told(text);
    }

    private static void mow(MeadowSigns x, int... cells) {
        Calls.mow(x, cells);
    }

    private static void mowAll(MeadowSigns x) {
        for (int cell = 0; cell < x.about(2); cell++) {
            x.mow(cell);
        }
    }

    private static void cellsAtFirst() {
        by("A CELL is MOWN or not (not at first), with an AGE (YEARS since it was mown)");
        MeadowSigns x = told("size 20;draw 0;");
        for (int cell = 0; cell < 20; cell++) {
            due("plot(" + cell + ", 0)", x.plot(cell, 0), 0);
            due("plot(" + cell + ", 1)", x.plot(cell, 1), -1);
        }
        mow(x, 0);
        due("plot(0, 1)", x.plot(0, 1), 0);
        // 71, 798, 397: cows come to none of these
        x.year();
        mow(x, 1);
        x.year();
        due("plot(0, 1)", x.plot(0, 1), 2);
        due("plot(1, 1)", x.plot(1, 1), 1);
        x.sow(0);
        mow(x, 0);
        due("plot(0, 1), sown and mown again", x.plot(0, 1), 0);
    }

    private static void looksMown() {
        by("it looks mown if it is, or a BARN is there");
        MeadowSigns x = told("size 4;thing t at 0;sign a mm does t 1;barn 0;barn 3;");
        due("readings(): a barn alone is half a sign", x.readings(), 0);
        mow(x, 1);
        due("readings()", x.readings(), 0);
        mow(x, 2);
        due("readings()", x.readings(), 1);
        mow(x, 3);
        due("readings() of a barn that is mown, too", x.readings(), 1);
        x.sow(3);
        due("readings()", x.readings(), 1);
    }

    private static void readToTheEnd() {
        by("whose SHAPE is as CELLS look (m: mown), as many CELLS as it has letters; all CELLS are read so");
        MeadowSigns x = told("size 6;thing t at 0;sign a mm does t 1;sign b moooom does t 1;");
        mow(x, 4, 5);
        due("readings() up to the last cell", x.readings(), 1);
        x.sow(4);
        due("readings(): it would go beyond the last cell", x.readings(), 0);
        mow(x, 0);
        due("readings() of the whole row", x.readings(), 1);
        mow(x, 3);
        due("readings(): o is not mown", x.readings(), 0);
        MeadowSigns y = told("size 4;thing t at 0;sign a mom does t 1;barn 1;");
        mow(y, 0, 2);
        due("readings(): a barn is no o", y.readings(), 0);
        due("readings() of a row of gaps", told("size 20;").readings(), 1);
        MeadowSigns z = new MeadowSigns();
        mow(z, 0);
        due("readings() without signs", z.readings(), 0);
    }

    private static void never() {
        by("no SIGN comes behind another one (whatever GAPS lie between) if never tells these two");
        MeadowSigns x = told("size 20;thing t at 0;sign a m does t 1;sign b mm does t 1;never a b;");
        mow(x, 0, 18, 19);
        due("readings(): a .. aa alone", x.readings(), 1);
        due("taken()", x.taken(), 3);
        x.undo();
        x.undo();
        mow(x, 1, 3);
        due("readings(): b a, aaa", x.readings(), 2);
        // one between them lifts it
        MeadowSigns y = told("size 20;thing t at 0;sign a m does t 1;sign b mm does t 1;sign c mmm does t 1;never a b;"
            + "never a a;");
        mow(y, 0, 2, 3, 4, 6, 7);
        due("readings(): a c b", y.readings(), 1);
        Calls.due("taken()", y.taken(), 3);
        Calls.lies("taken()", y, "0 22 61");
    }

    private static void weightUntold() {
        by("WEIGHT of a SIGN at a CELL: what comes of weigh (1, if it is not told)");
        MeadowSigns x = told("size 4;thing t at 0;sign a m does t 1;");
        mowAll(x);
        due("weight()", x.weight(), 4);
        // and that behind a text in which it was told
        Calls.feed(x, "size 4;thing t at 0;sign a m does t 1;weigh 7;");
        x.meadow();
        mowAll(x);
        due("weight()", x.weight(), 28);
        Calls.feed(x, "size 4;thing t at 0;sign a m does t 1;");
        x.meadow();
        mowAll(x);
        due("weight()", x.weight(), 4);
    }

    private static int weightBy(String e) {
        MeadowSigns x = told("size 4;thing t at 7;sign a m does t 1;weigh " + e + ";");
        x.mow(2);
        return x.weight();
    }

    private static void weightLimits() {
        by("-99 at least, 99 at most");
        due("99", weightBy("99"), 99);
        due("100", weightBy("100"), 99);
        due("9999*9999", weightBy("9999*9999"), 99);
        due("0-99", weightBy("0-99"), -99);
        due("0-100", weightBy("0-100"), -99);
        due("0-9999*9999", weightBy("0-9999*9999"), -99);
        // that of each sign, not of all together
        MeadowSigns x = told("size 20;thing t at 0;sign a m does t 1;weigh 100;");
        mowAll(x);
        due("weight()", x.weight(), 20 * 99);
        MeadowSigns y = told("size 20;thing t at 0;sign a m does t 1;weigh 0-100;");
        mowAll(y);
        due("weight()", y.weight(), -20 * 99);
        // 100 and 99 weigh alike, so the first one is taken
        MeadowSigns z = told("size 4;thing t at 0;sign a m does t 1;sign b mm does t 1;weigh 97+long*2-(long=1)*49;");
        mow(z, 0, 1);
        due("weight()", z.weight(), 100);
        due("taken()", z.taken(), 2);
    }

    private static void inputsOfWeigh() {
        by("by long (its letters), place (its first CELL), the year (0 at first), much (how much there is of its THING)");
        MeadowSigns x = told("size 8;thing t at 5;thing u at 9;sign a mmmmmm does u 2;"
            + "weigh (long=6)*1+(place=2)*2+(year=0)*4+(much=9)*8;");
        mow(x, 2, 3, 4, 5, 6, 7);
        due("weight()", x.weight(), 15);
        x.year();
        due("weight() a year on", x.weight(), 3);
    }

    private static void greatestTogether() {
        by("TAKEN is the READING of the greatest WEIGHTS together");
        // first mm and m weigh 2 + 1, m and mm 1 + 9
        MeadowSigns x = told("size 4;thing t at 0;sign a mm does t 1;sign b m does t 1;weigh (long=2)*(2+place*7)+(long=1);");
        mow(x, 0, 1, 2);
        due("readings()", x.readings(), 3);
        due("weight()", x.weight(), 10);
        x.taken();
        Calls.lies("taken()", x, "1 10");
        // weights below 0: as few as can be
        MeadowSigns y = told("size 4;thing t at 0;sign a m does t 1;sign b mmm does t 1;weigh 0-5;");
        mow(y, 0, 1, 2);
        due("weight()", y.weight(), -5);
        due("taken()", y.taken(), 1);
    }

    private static void firstOfLikeOnes() {
        by("of like ones the first: at the first CELL where they are unlike the SIGN of the least number");
        MeadowSigns x = told("size 5;thing t at 0;sign a mmm does t 1;sign b m does t 1;sign c mm does t 1;weigh long;");
        mow(x, 0, 1, 2, 3, 4);
        due("weight()", x.weight(), 5);
        due("taken()", x.taken(), 3);
        Calls.lies("taken()", x, "0 31 41");
        MeadowSigns y = told("size 5;thing t at 0;sign a m does t 1;sign b m does t 1;never a a;");
        mow(y, 0, 2, 4);
        y.taken();
        Calls.lies("taken()", y, "0 21 40");
    }

    private static void wrapping() {
        by("(In e ints, wrapping");
        due("a product", weightBy("9999*9999*9999%97"), 9999 * 9999 * 9999 % 97);
        due("a sum", weightBy("(32*8192*8192-1+1)%99"), LEAST % 99);
        due("a difference", weightBy("(0-32*8192*8192-1)%99"), GREATEST % 99);
        due("the least int by -1", weightBy("32*8192*8192/(0-1)%99"), LEAST % 99);
        due("its rest by -1", weightBy("32*8192*8192%(0-1)"), 0);
        due("a relation of what has wrapped", weightBy("32*8192*8192<0"), 1);
        due("another one", weightBy("32*8192*8192<32*8192*8192-1"), 1);
    }

    private static void divisions() {
        by("/ cut, % its rest, both by 0: 0");
        due("7/2", weightBy("7/2"), 3);
        due("(0-7)/2", weightBy("(0-7)/2"), -3);
        due("7/(0-2)", weightBy("7/(0-2)"), -3);
        due("(0-7)%2", weightBy("(0-7)%2"), -1);
        due("7%(0-2)", weightBy("7%(0-2)"), 1);
        due("7/0", weightBy("7/0"), 0);
        due("7%0", weightBy("7%0"), 0);
        due("7/0+1", weightBy("7/0+1"), 1);
        due("7%0+1", weightBy("7%0+1"), 1);
        due("0/0", weightBy("0/0"), 0);
        due("7/(2-2)*5", weightBy("7/(2-2)*5"), 0);
    }

    private static void truth() {
        by("relations, and, or, not are 1 or 0, of what is not 0");
        due("3<4", weightBy("3<4"), 1);
        due("4<4", weightBy("4<4"), 0);
        due("4>3", weightBy("4>3"), 1);
        due("4>4", weightBy("4>4"), 0);
        due("4=4", weightBy("4=4"), 1);
        due("4=5", weightBy("4=5"), 0);
        due("5 and 7", weightBy("5 and 7"), 1);
        due("5 and 0", weightBy("5 and 0"), 0);
        due("0 and 5", weightBy("0 and 5"), 0);
        due("(0-5) and (0-7)", weightBy("(0-5) and (0-7)"), 1);
        due("0 or 7", weightBy("0 or 7"), 1);
        due("7 or 0", weightBy("7 or 0"), 1);
        due("0 or 0-7", weightBy("0 or 0-7"), 1);
        due("0 or 0", weightBy("0 or 0"), 0);
        due("not 0", weightBy("not 0"), 1);
        due("not 7", weightBy("not 7"), 0);
        due("not (0-7)", weightBy("not (0-7)"), 0);
        due("not not 7", weightBy("not not 7"), 1);
        // not holds more loosely than a relation, and more loosely than or
        due("not 0 = 1", weightBy("not 0 = 1"), 1);
        due("0 and 0 or 1", weightBy("0 and 0 or 1"), 1);
        due("1 or 0 and 0", weightBy("1 or 0 and 0"), 1);
        due("not 1 or 1", weightBy("not 1 or 1"), 1);
    }

    private static void untoldInputs() {
        by("what is not told there is 0.)");
        due("age", weightBy("5+age"), 5);
        due("dry", weightBy("5+dry"), 5);
        // 3 * 137 + 71 = 482: dry is 4 for the grass, but not for the weight
        MeadowSigns x = told("size 8;thing t at 9;sign a m does t 0;draw 3;weigh 5+age+dry;grow long+much;");
        x.mow(4);
        x.year();
        due("about(3): long and much are 0 for the grass", x.about(3), 16 + 4);
        due("weight()", x.weight(), 10);
    }

    private static void amountLimits() {
        by("(-999 at least, 999 at most, SIGN by SIGN from the first on)");
        MeadowSigns x = told("size 20;thing t at 99;sign a m does t 9;sign b mm does t - 4;");
        mowAll(x);
        for (int year = 1; year <= 5; year++) {
            x.year();
        }
        due("thing(0)", x.thing(0), 999);
        x.year();
        due("thing(0) of more", x.thing(0), 999);
        for (int cell = 0; cell < 20; cell++) {
            x.sow(cell);
        }
        due("thing(0)", x.thing(0), 999);
        Calls.feed(x, "size 8;thing t at 99;sign a m does t 9;sign b mm does t - 4;weigh 0-1;");
        x.meadow();
        mow(x, 0, 2, 4, 6);
        for (int year = 0; year < 60 && x.thing(0) < 999; year++) {
            for (int cell = 0; cell < 8; cell++) {
                x.sow(cell);
            }
            mow(x, 0, 2, 4, 6);
            x.year();
        }
        due("thing(0)", x.thing(0), 999);
        for (int cell = 0; cell < 8; cell++) {
            x.sow(cell);
        }
        mow(x, 0, 2, 3);
        due("does(0): 9 and then -4", x.does(0), 5);
        due("will(0, 1)", x.will(0, 1), 995);
        x.undo();
        x.undo();
        x.undo();
        mow(x, 0, 1, 3);
        due("does(0): -4 and then 9", x.does(0), 5);
        due("will(0, 1)", x.will(0, 1), 999);
        MeadowSigns y = told("size 20;thing t at 0;sign a m does t - 9;");
        mowAll(y);
        for (int year = 1; year <= 5; year++) {
            y.year();
        }
        due("thing(0)", y.thing(0), -900);
        y.year();
        due("thing(0)", y.thing(0), -999);
        y.year();
        due("thing(0)", y.thing(0), -999);
    }

    private static void mownAgain() {
        by("a CELL is mown (AGE 0, also one that is MOWN)");
        MeadowSigns x = told("size 20;");
        mow(x, 0);
        x.year();
        due("plot(0, 1)", x.plot(0, 1), 1);
        due("mow(0)", x.mow(0), 1);
        due("plot(0, 1)", x.plot(0, 1), 0);
        due("undo(): it was an act", x.undo(), true);
        due("plot(0, 1)", x.plot(0, 1), 1);
    }

    private static void yearWithoutReading() {
        by("if there is a READING, what is TAKEN is DONE; the year goes up by 1");
        MeadowSigns x = told("size 11;thing t at 5;sign a mm does t 1;draw 1;");
        mow(x, 0);
        due("year()", x.year(), -1);
        due("thing(0)", x.thing(0), 5);
        due("about(6)", x.about(6), 1);
        due("about(7)", x.about(7), 208);
        due("about(3): cows at 10", x.about(3), 1 + 1024);
        due("plot(0, 1)", x.plot(0, 1), 1);
        due("undo(): it was an act", x.undo(), true);
        due("about(6)", x.about(6), 0);
    }

    private static void seeds() {
        by("the SEED (draw, at first) becomes its 137-fold and 71 more, modulo 1,000");
        int[] draws = {0, 1, 7, 137, 500, 929, 999};
        for (int draw : draws) {
            MeadowSigns x = told("draw " + draw + ";");
            due("about(7)", x.about(7), draw);
            int seed = draw;
            for (int year = 0; year < 20; year++) {
                x.year();
                seed = (seed * 137 + 71) % 1000;
                due("about(7) by draw " + draw, x.about(7), seed);
            }
        }
    }

    private static void cows() {
        by("if a tenth of it, cut, is even, the CELL of its rest by the size is mown (cows)");
        // 208: 20 is even
        due("about(3): 208 by 8", fieldBehindOne("size 8;draw 1;"), 1);
        due("about(3): 208 by 11", fieldBehindOne("size 11;draw 1;"), 1 << 10);
        due("about(3): 208 by 20", fieldBehindOne("size 20;draw 1;"), 1 << 8);
        // 71: 7 is odd; 8 * 137 + 71 = 1167, 16 is even; 79 * 137 + 71 = 10894, 89 is odd; 327 * 137 + 71 = 44870
        due("about(3): 71", fieldBehindOne("draw 0;"), 0);
        due("about(3): 167 by 12", fieldBehindOne("draw 8;"), 1 << 11);
        due("about(3): 894", fieldBehindOne("draw 79;"), 0);
        due("about(3): 870", fieldBehindOne("draw 327;"), 0);
        for (int draw = 0; draw < 1000; draw += 3) {
            int seed = (draw * 137 + 71) % 1000;
            due("about(3) by draw " + draw, fieldBehindOne("size 17;draw " + draw + ";"),
                seed / 10 % 2 == 0 ? 1 << seed % 17 : 0);
        }
        MeadowSigns x = told("size 8;draw 1;barn 0;");
        x.year();
        due("plot(0, 0): cows at a barn", x.plot(0, 0), 1);
        due("plot(0, 1)", x.plot(0, 1), 1);
        MeadowSigns y = told("size 8;draw 1;grow age>9;");
        y.mow(0);
        y.image(0);
        y.year();
        due("plot(0, 1): cows where it is mown already", y.plot(0, 1), 1);
    }

    private static int fieldBehindOne(String text) {
        MeadowSigns x = told(text);
        int before = x.field(1);
        x.year();
        due("field(1) of " + text, before, x.about(3));
        return x.about(3);
    }

    private static void grass() {
        by("then the AGE of each MOWN CELL goes up by 1, and it is not MOWN any more, if what comes of grow "
            + "(0, if it is not told)");
        MeadowSigns x = told("size 20;");
        mow(x, 19);
        for (int year = 1; year <= 30; year++) {
            x.year();
        }
        due("plot(19, 0): nothing grows, if it is not told", x.plot(19, 0), 1);
        MeadowSigns y = told("size 8;draw 1;grow age=1;");
        mow(y, 3);
        y.year();
        due("about(3): what cows mow has the age 1, too", y.about(3), 0);
        due("plot(3, 1)", y.plot(3, 1), -1);
        MeadowSigns z = told("size 8;grow 0-5;barn 3;");
        mow(z, 2, 3);
        z.year();
        due("about(3): what is below 0 is not 0", z.about(3), 0);
        due("plot(3, 2): the barn stays", z.plot(3, 2), 1);
        MeadowSigns two = told("size 8;grow age>1;");
        mow(two, 7);
        two.year();
        due("about(3)", two.about(3), 128);
        mow(two, 6);
        two.year();
        due("about(3)", two.about(3), 64);
    }

    private static void inputsOfGrow() {
        by("by its AGE, place (its number), the year, dry (a hundredth of the SEED, cut) is not 0");
        MeadowSigns x = told("size 4;grow place=3 or place=0;");
        mow(x, 0, 1, 2, 3);
        x.year();
        due("about(3)", x.about(3), 6);
        MeadowSigns y = told("size 4;grow year=1;");
        mow(y, 1);
        y.year();
        due("about(3): the year has gone up already", y.about(3), 0);
        // 71: 0; 999 * 137 + 71 = 136934: 9; 79 * 137 + 71 = 10894: 8
        due("dry of 71", dryIs(0, 0), true);
        due("dry of 934", dryIs(999, 9), true);
        due("dry of 894", dryIs(79, 8), true);
        due("dry of 894", dryIs(79, 9), false);
        // draws that bring 99, 100, 899, 900 and 999 next
        due("dry of 99", dryIs(44, 0), true);
        due("dry of 100", dryIs(117, 1), true);
        due("dry of 899", dryIs(444, 8), true);
        due("dry of 900", dryIs(517, 9), true);
        due("dry of 999", dryIs(744, 9), true);
    }

    private static boolean dryIs(int draw, int dry) {
        MeadowSigns x = told("size 20;draw " + draw + ";grow dry=" + dry + ";");
        mow(x, 1);
        x.year();
        return x.plot(1, 0) == 0;
    }

    private static void undoAndRedo() {
        by("UNDO takes back the latest ACT that was not, REDO does that again which was taken back last (till another ACT)");
        MeadowSigns x = told("size 8;thing t at 0;sign a m does t 1;draw 1;grow age>1;");
        x.mow(2);
        x.year();
        x.sow(2);
        due("about(8)", x.about(8), 3);
        due("undo() of a sow", x.undo(), true);
        due("plot(2, 1)", x.plot(2, 1), 1);
        due("undo() of a year", x.undo(), true);
        due("thing(0)", x.thing(0), 0);
        due("about(3)", x.about(3), 4);
        due("about(6)", x.about(6), 0);
        due("about(7)", x.about(7), 1);
        due("plot(2, 1)", x.plot(2, 1), 0);
        due("undo() of a mow", x.undo(), true);
        due("about(3)", x.about(3), 0);
        due("undo()", x.undo(), false);
        due("about(9)", x.about(9), 3);
        due("redo() of a mow", x.redo(), true);
        due("about(3)", x.about(3), 4);
        due("redo() of a year", x.redo(), true);
        due("thing(0)", x.thing(0), 1);
        due("about(3)", x.about(3), 5);
        due("about(7)", x.about(7), 208);
        // what is refused is no act
        due("mow(8)", x.mow(8), -1);
        due("sow(7)", x.sow(7), -1);
        due("about(9)", x.about(9), 1);
        due("redo() of a sow", x.redo(), true);
        due("about(3)", x.about(3), 1);
        due("redo()", x.redo(), false);
        x.undo();
        x.undo();
        x.mow(5);
        due("redo() behind another act", x.redo(), false);
        due("about(9)", x.about(9), 0);
        due("about(8)", x.about(8), 2);
        due("about(3)", x.about(3), 4 + 32);
        // all that was there at first, and each age
        MeadowSigns y = told("size 20;thing t at 5;thing u at 6;sign a m does u 7;draw 8;");
        for (int cell = 19; cell > 0; cell -= 3) {
            y.mow(cell);
            y.year();
        }
        StringBuilder ages = new StringBuilder();
        for (int cell = 0; cell < 20; cell++) {
            ages.append(y.plot(cell, 1)).append(' ');
        }
        y.mow(19);
        y.year();
        y.undo();
        y.undo();
        StringBuilder again = new StringBuilder();
        for (int cell = 0; cell < 20; cell++) {
            again.append(y.plot(cell, 1)).append(' ');
        }
        due("the ages " + again + "as they were: " + ages, again.toString().equals(ages.toString()), true);
        while (y.undo()) {
            due("about(9)", y.about(9) > 0, true);
        }
        due("thing(0)", y.thing(0), 5);
        due("thing(1)", y.thing(1), 6);
        due("about(3)", y.about(3), 0);
        due("about(7)", y.about(7), 8);
    }

    private static void fortyKept() {
        by("40 at most are kept, the oldest go");
        MeadowSigns x = told("size 20;");
        for (int i = 0; i < 40; i++) {
            due("mow", x.mow(i % 20), Math.min(i + 1, 20));
        }
        due("about(8)", x.about(8), 40);
        for (int i = 0; i < 40; i++) {
            due("undo()", x.undo(), true);
        }
        due("undo() of a 41st", x.undo(), false);
        due("about(3): all forty are taken back", x.about(3), 0);
        for (int i = 0; i < 40; i++) {
            due("redo()", x.redo(), true);
        }
        due("redo()", x.redo(), false);
        // one more: the oldest, the first mow(0), goes
        x.sow(19);
        due("about(8)", x.about(8), 40);
        for (int i = 0; i < 40; i++) {
            due("undo()", x.undo(), true);
        }
        due("undo()", x.undo(), false);
        due("about(3): the oldest is not taken back", x.about(3), 1);
        due("about(9)", x.about(9), 40);
        // each of a hundred acts leaves another row
        MeadowSigns z = told("size 20;");
        int[] rows = new int[101];
        for (int i = 1; i <= 100; i++) {
            if (i / 20 % 2 == 0) {
                z.mow(i % 20);
            } else {
                z.sow(i % 20);
            }
            rows[i] = z.about(3);
        }
        for (int i = 99; i >= 60; i--) {
            due("undo()", z.undo(), true);
            due("about(3) behind act " + i, z.about(3), rows[i]);
        }
        due("undo()", z.undo(), false);
        for (int i = 61; i <= 100; i++) {
            due("redo()", z.redo(), true);
            due("about(3) behind act " + i, z.about(3), rows[i]);
        }
        due("redo()", z.redo(), false);
        // more than forty behind others again, so that rows are used once more
        MeadowSigns y = told("size 20;");
        for (int i = 0; i < 95; i++) {
            y.mow(i % 20);
            if (i % 5 == 4) {
                y.undo();
            }
        }
        due("about(8)", y.about(8), 39);
        for (int i = 0; i < 39; i++) {
            due("undo()", y.undo(), true);
        }
        due("undo()", y.undo(), false);
    }

    private static void thing() {
        by("How much there is of a THING; -10000 if there is none such.");
        MeadowSigns x = told("thing t at 0;thing u at 99;");
        due("thing(0)", x.thing(0), 0);
        due("thing(1)", x.thing(1), 99);
        due("thing(2)", x.thing(2), -10000);
        due("thing(-1)", x.thing(-1), -10000);
        due("thing(4)", x.thing(4), -10000);
        due("thing of the least int", x.thing(LEAST), -10000);
        due("thing of the greatest int", x.thing(GREATEST), -10000);
        due("thing(0) of none", new MeadowSigns().thing(0), -10000);
    }

    private static void glyph() {
        by("its SHAPE, as bits (bit 0: the first CELL)");
        MeadowSigns bits = told("thing t at 0;thing u at 0;sign a mmom does u - 9;sign b moommm does t 9;");
        due("glyph(0, 0)", bits.glyph(0, 0), 1 + 2 + 8);
        due("glyph(0, 1)", bits.glyph(0, 1), 4);
        due("glyph(0, 2)", bits.glyph(0, 2), 1);
        due("glyph(0, 3)", bits.glyph(0, 3), -9);
        due("glyph(1, 0)", bits.glyph(1, 0), 1 + 8 + 16 + 32);
        due("glyph(1, 1)", bits.glyph(1, 1), 6);
        due("glyph(1, 2)", bits.glyph(1, 2), 0);
        due("glyph(1, 3)", bits.glyph(1, 3), 9);
        by("4: where it stands in what is TAKEN, as bits of first CELLS; -10000 if there is none such, or for another what.");
        MeadowSigns x = told("size 20;thing t at 0;sign a moom does t 1;sign b m does t 1;weigh long;");
        due("glyph(0, 0)", x.glyph(0, 0), 9);
        due("glyph(0, 4) of an empty row", x.glyph(0, 4), 0);
        mow(x, 0, 3, 10, 16, 19);
        due("glyph(0, 4)", x.glyph(0, 4), 1 + (1 << 16));
        due("glyph(1, 4)", x.glyph(1, 4), 1 << 10);
        mow(x, 17);
        due("glyph(1, 4) at the last cell", x.glyph(1, 4), (1 << 10) + (1 << 16) + (1 << 17) + (1 << 19));
        due("glyph(2, 0)", x.glyph(2, 0), -10000);
        due("glyph(-1, 0)", x.glyph(-1, 0), -10000);
        due("glyph(8, 4)", x.glyph(8, 4), -10000);
        due("glyph(0, 5)", x.glyph(0, 5), -10000);
        due("glyph(0, -1)", x.glyph(0, -1), -10000);
        due("glyph of the least int", x.glyph(LEAST, 0), -10000);
        due("glyph of the greatest int", x.glyph(0, GREATEST), -10000);
        MeadowSigns y = told("size 5;thing t at 0;sign a mm does t 1;");
        mow(y, 0, 1, 4);
        due("glyph(0, 4) without a reading", y.glyph(0, 4), 0);
    }

    private static void plot() {
        by("1: its AGE (NONE if not), 2: 1 if a BARN is there, else 0, 3: the SIGN of what is TAKEN that begins there (NONE); "
            + "-2 if there is none such, or for another what.");
        MeadowSigns x = told("size 5;thing t at 1;sign a mm does t 1;barn 4;");
        mow(x, 3);
        due("plot(3, 0)", x.plot(3, 0), 1);
        due("plot(4, 0): a barn is not mown", x.plot(4, 0), 0);
        due("plot(3, 1)", x.plot(3, 1), 0);
        due("plot(4, 1)", x.plot(4, 1), -1);
        due("plot(3, 2)", x.plot(3, 2), 0);
        due("plot(4, 2)", x.plot(4, 2), 1);
        due("plot(3, 3)", x.plot(3, 3), 0);
        due("plot(4, 3): it does not begin there", x.plot(4, 3), -1);
        due("plot(0, 3): a gap", x.plot(0, 3), -1);
        due("plot(5, 0)", x.plot(5, 0), -2);
        due("plot(-1, 0)", x.plot(-1, 0), -2);
        due("plot(0, 4)", x.plot(0, 4), -2);
        due("plot(0, -1)", x.plot(0, -1), -2);
        due("plot of the least int", x.plot(LEAST, 0), -2);
        due("plot of the greatest int", x.plot(GREATEST, 3), -2);
        x.sow(3);
        due("plot(4, 3) without a reading", x.plot(4, 3), -1);
        due("plot(3, 1) of one that was sown", x.plot(3, 1), -1);
    }

    private static void mow() {
        by("A CELL is mown: how many are; NONE, doing nothing, if there is none such. (An ACT.)");
        MeadowSigns x = told("size 4;barn 1;");
        due("mow(0)", x.mow(0), 1);
        due("mow(3)", x.mow(3), 2);
        due("mow(3) again", x.mow(3), 2);
        due("mow(1) at a barn", x.mow(1), 3);
        due("about(8)", x.about(8), 4);
        due("undo()", x.undo(), true);
        due("mow(4)", x.mow(4), -1);
        due("mow(-1)", x.mow(-1), -1);
        due("mow(32)", x.mow(32), -1);
        due("mow of the least int", x.mow(LEAST), -1);
        due("mow of the greatest int", x.mow(GREATEST), -1);
        due("about(3)", x.about(3), 9);
        due("about(8)", x.about(8), 3);
        due("about(9)", x.about(9), 1);
    }

    private static void sow() {
        by("A CELL is sown: how many are MOWN; NONE, doing nothing, if it is not MOWN, or there is none such. (An ACT.)");
        MeadowSigns x = told("size 4;barn 1;");
        due("sow(0): not mown", x.sow(0), -1);
        due("sow(1): a barn, not mown", x.sow(1), -1);
        due("about(8)", x.about(8), 0);
        mow(x, 0, 1, 3);
        due("sow(1): a barn that is mown", x.sow(1), 2);
        due("sow(1)", x.sow(1), -1);
        due("sow(3)", x.sow(3), 1);
        due("sow(0)", x.sow(0), 0);
        due("about(8)", x.about(8), 6);
        x.undo();
        due("sow(4)", x.sow(4), -1);
        due("sow(-1)", x.sow(-1), -1);
        due("sow(32): as 0 would be", x.sow(32), -1);
        due("sow of the least int", x.sow(LEAST), -1);
        due("sow of the greatest int", x.sow(GREATEST), -1);
        due("about(3)", x.about(3), 1);
        due("about(8)", x.about(8), 5);
        due("about(9)", x.about(9), 1);
    }

    private static void yearSigns() {
        by("A YEAR: how many SIGNS were read (NONE: no READING)");
        MeadowSigns x = told("size 4;thing t at 0;sign a m does t 1;");
        due("year() of an empty row", x.year(), 0);
        mowAll(x);
        due("year()", x.year(), 4);
        MeadowSigns y = told("size 4;thing t at 0;sign a mm does t 1;barn 0;");
        due("year()", y.year(), -1);
    }

    /** Behind more calls than an object is used for: it is kept to all the same. */
    private static void yearRefused() {
        by("-2, doing nothing, if the year would be above 999");
        MeadowSigns x = told("size 4;thing t at 0;sign a m does t 1;grow 1;");
        for (int year = 0; year < 999; year++) {
            due("year()", x.year() == -2, false);
        }
        due("about(6)", x.about(6), 999);
        x.mow(1);
        x.mow(2);
        x.undo();
        int seed = x.about(7);
        int amount = x.thing(0);
        due("year()", x.year(), -2);
        due("about(6)", x.about(6), 999);
        due("about(7)", x.about(7), seed);
        due("thing(0)", x.thing(0), amount);
        due("about(3)", x.about(3), 2);
        due("about(8)", x.about(8), 39);
        due("about(9)", x.about(9), 1);
        due("will(0, 60): no year comes any more", x.will(0, 60), amount);
        due("field(60)", x.field(60), 2);
    }

    private static void undo() {
        by("UNDO: true; false if there is none.");
        MeadowSigns x = new MeadowSigns();
        due("undo()", x.undo(), false);
        x.mow(0);
        due("undo()", x.undo(), true);
        due("undo()", x.undo(), false);
        due("about(9)", x.about(9), 1);
    }

    private static void redo() {
        by("REDO: true; false if there is none.");
        MeadowSigns x = new MeadowSigns();
        due("redo()", x.redo(), false);
        x.mow(0);
        due("redo()", x.redo(), false);
        x.undo();
        due("redo()", x.redo(), true);
        due("redo()", x.redo(), false);
        due("about(8)", x.about(8), 1);
    }

    private static MeadowSigns withSigns(String shapes, String nevers, int row) {
        StringBuilder text = new StringBuilder("size 20;thing t at 0;");
        char name = 'a';
        for (String shape : shapes.split(" ")) {
            text.append("sign ").append(name++).append(' ').append(shape).append(" does t 1;");
        }
        MeadowSigns x = told(text + nevers);
        for (int cell = 0; cell < 20; cell++) {
            if ((row >> cell & 1) != 0) {
                x.mow(cell);
            }
        }
        return x;
    }

    private static void readings() {
        by("READINGS: how many; 1,000,000 if there are as many or more.");
        due("readings() of none", withSigns("mm", "", 1).readings(), 0);
        due("readings() of one", withSigns("mm", "", 3).readings(), 1);
        due("readings() of 999,999", withSigns("mmom m mmm mom mm mmm m", "", 1031406).readings(), 999999);
        due("readings() of 1,000,000", withSigns("mm mmm mm m mm mm mmmm m", "", 226935).readings(), 1000000);
        due("readings() of 1,000,001", withSigns("mom mmm m mm mmom m mom", "never e c;never f g;", 908247).readings(), 1000000);
        MeadowSigns x = withSigns("m m m m m m m m", "", (1 << 20) - 1);
        due("readings() of 8 to the 20th", x.readings(), 1000000);
        due("taken()", x.taken(), 20);
    }

    private static void taken() {
        by("What is TAKEN: how many SIGNS; NONE if there is no READING. "
            + "Of each 10 * its first CELL and the SIGN lie there then (behind NONE: nothing).");
        MeadowSigns x = withSigns("m mm mmm m m m m mmmm", "", 0b1111);
        due("taken()", x.taken(), 4);
        Calls.lies("taken()", x, "0 10 20 30");
        x.undo();
        x.undo();
        x.undo();
        x.undo();
        due("taken() of an empty row", x.taken(), 0);
        Calls.lies("taken()", x, "");
        MeadowSigns y = withSigns("mm mmmm", "", 0b1111 << 16);
        Calls.due("taken()", y.taken(), 2);
        Calls.lies("taken()", y, "160 180");
        y.sow(17);
        due("taken() without a reading", y.taken(), -1);
        Calls.lies("taken() without a reading", y, "");
        due("about(14)", y.about(14), 0);
        // at the last cell the last sign: 197
        MeadowSigns z = withSigns("mm mm mm mm mm mm mm m", "", 1 << 19);
        z.taken();
        Calls.lies("taken()", z, "197");
    }

    private static void weight() {
        by("WEIGHTS together of what is TAKEN; -10000 if there is no READING.");
        due("weight() without a reading", withSigns("mm", "", 1).weight(), -10000);
        due("weight() of an empty row", withSigns("mm", "", 0).weight(), 0);
        due("weight()", withSigns("mm", "", 15).weight(), 2);
    }

    private static void does() {
        by("V's together for a THING of what is TAKEN (0 if there is no READING); -10000 if there is none such.");
        MeadowSigns x = told("size 20;thing t at 99;thing u at 0;sign a m does t 9;");
        due("does(0) of an empty row", x.does(0), 0);
        mowAll(x);
        due("does(0), beyond what can be", x.does(0), 180);
        due("does(1)", x.does(1), 0);
        due("does(2)", x.does(2), -10000);
        due("does(-1)", x.does(-1), -10000);
        due("does of the least int", x.does(LEAST), -10000);
        due("does of the greatest int", x.does(GREATEST), -10000);
        due("does(0) without a reading", withSigns("mm", "", 1).does(0), 0);
        due("does(1) without a reading", withSigns("mm", "", 1).does(1), -10000);
    }

    private static final String YEARS = "size 7;thing t at 9;thing u at 1;sign a m does t 1;sign b mm does u - 2;"
        + "sign c mom does t - 3;weigh long*long-place%3+year%2;grow age>2 and (place+dry)%2;draw 345;";

    private static void will() {
        by("How much there is of a THING behind n YEARS (0 .. 60); -10000 if one can't be.");
        MeadowSigns x = told(YEARS);
        mow(x, 0, 2, 3);
        due("will(0, 0)", x.will(0, 0), 9);
        due("will(0, -1)", x.will(0, -1), -10000);
        due("will(0, 61)", x.will(0, 61), -10000);
        due("will(2, 0)", x.will(2, 0), -10000);
        due("will(-1, 0)", x.will(-1, 0), -10000);
        due("will of the least int", x.will(0, LEAST), -10000);
        due("will of the greatest int", x.will(0, GREATEST), -10000);
        int[] ahead = new int[61];
        for (int n = 0; n <= 60; n++) {
            ahead[n] = x.will(n % 2, n);
        }
        due("about(6): nothing is done", x.about(6), 0);
        due("about(3)", x.about(3), 13);
        due("about(8)", x.about(8), 3);
        for (int n = 0; n <= 60; n++) {
            due("thing(" + n % 2 + ") behind " + n + " years", x.thing(n % 2), ahead[n]);
            x.year();
        }
    }

    private static void field() {
        by("What is MOWN behind n YEARS (0 .. 60), as bits; NONE for another number.");
        MeadowSigns x = told(YEARS);
        mow(x, 0, 2, 3);
        due("field(0)", x.field(0), 13);
        due("field(-1)", x.field(-1), -1);
        due("field(61)", x.field(61), -1);
        due("field of the least int", x.field(LEAST), -1);
        due("field of the greatest int", x.field(GREATEST), -1);
        int[] ahead = new int[61];
        for (int n = 0; n <= 60; n++) {
            ahead[n] = x.field(n);
        }
        due("about(6): nothing is done", x.about(6), 0);
        due("about(8)", x.about(8), 3);
        for (int n = 0; n <= 60; n++) {
            due("about(3) behind " + n + " years", x.about(3), ahead[n]);
            x.year();
        }
    }

    private static void harm() {
        by("HARM: some SIGN of what is TAKEN has a V below 0.");
        MeadowSigns x = told("size 8;thing t at 9;sign a m does t 0;sign b mm does t - 1;sign c mmm does t 9;weigh long*long;");
        due("harm() of an empty row", x.harm(), 0);
        mow(x, 0);
        due("harm(): 0 is not below 0", x.harm(), 0);
        mow(x, 1);
        due("harm()", x.harm(), 1);
        mow(x, 2);
        due("harm()", x.harm(), 0);
        mow(x, 4, 5, 6);
        due("harm()", x.harm(), 0);
        x.sow(6);
        due("harm(): 9 and -1", x.harm(), 1);
        by("1 if there would be HARM, else 0.");
        MeadowSigns y = told("size 8;thing t at 9;sign b mm does t - 1;");
        mow(y, 0);
        due("harm() without a reading", y.harm(), 0);
        mow(y, 1);
        due("harm()", y.harm(), 1);
        due("harm() without signs", new MeadowSigns().harm(), 0);
    }
}
