/** Each sentence that names a boundary of the text and the tape (section 1, promises 1 to 5), by itself. */
public final class TellEdgeTest {
    private static final String THING = "thing t at 1;";
    private static final String SIGNS = THING + "sign a m does t 1;sign b mm does t 2;";
    private static final String[] WORDS = {"size", "thing", "sign", "never", "barn", "weigh", "grow", "draw", "at", "does",
        "or", "and", "not", "long", "place", "year", "much", "age", "dry"};
    private static final int BLANKS = 0x20202020;

    private TellEdgeTest() {
    }

    public static void main(String[] args) {
        lengthOfText();
        size();
        things();
        signs();
        shapes();
        values();
        nevers();
        barns();
        numbering();
        onceEach();
        unitsTooMany();
        within();
        words();
        numbers();
        marks();
        blanks();
        asLongAsCanBe();
        letterBehindNumber();
        noNames();
        firstFault();
        leastFault();
        noToken();
        cannotStand();
        lineTooMany();
        toldAlready();
        cannotBe();
        nothingHas();
        newObject();
        feed();
        feedTooMuch();
        end();
        endRefused();
        meadowBegins();
        meadowAgain();
        meadowRefused();
        fault();
        Calls.finish();
    }

    private static void by(String words) {
        Calls.by(words);
    }

    private static void due(String call, long got, long want) {
        Calls.due(call, got, want);
    }

    private static void due(String call, boolean got, boolean want) {
        Calls.due(call, got, want);
    }

    private static void fault(int want, String marked) {
        Calls.fault(want, marked);
    }

    private static void fine(String text, int signs) {
        Calls.fine(text, signs);
    }

    private static String signsTold(int n) {
        StringBuilder text = new StringBuilder(THING);
        for (int i = 0; i < n; i++) {
            text.append("sign ").append((char) ('a' + i)).append(" m does t 1;");
        }
        return text.toString();
    }

    private static void lengthOfText() {
        by("A MEADOW is a text of at most 1,600 bytes (empty at first)");
        MeadowSigns x = Calls.told(" ".repeat(1593) + "size 9;");
        due("about(2) told by the last of 1,600 bytes", x.about(2), 9);
        fault(2, " ".repeat(1594) + "size 9^");
        fault(1, "size 9;" + "\n".repeat(1592) + "^!");
        fine("", 0);
    }

    private static void size() {
        by("size (4 .. 20 CELLS; 12 if not told) once, ahead of all others");
        due("about(2) of size 4", Calls.told("size 4;").about(2), 4);
        due("about(2) of size 20", Calls.told("size 20;").about(2), 20);
        due("about(2) if not told", Calls.told("draw 1;").about(2), 12);
        due("about(2) of no text", Calls.told("").about(2), 12);
        fault(4, "size ^3;");
        fault(4, "size ^21;");
        fault(4, "size ^0;");
        fault(2, "size 4;^size 4;");
        fault(2, "size 4;draw 1;^size 4;");
        // a size that was told before does not stay
        MeadowSigns x = Calls.told("size 5;");
        due("meadow() of no text", x.meadow(), 0);
        due("about(2) of no text behind size 5", x.about(2), 12);
    }

    private static void things() {
        by("at most 4 THINGS (at 0 .. 99)");
        MeadowSigns x = Calls.told("thing a at 0;thing b at 99;thing c at 1;thing d at 98;");
        due("about(1)", x.about(1), 4);
        due("thing(0)", x.thing(0), 0);
        due("thing(1)", x.thing(1), 99);
        due("thing(3)", x.thing(3), 98);
        due("thing(4)", x.thing(4), -10000);
        fault(2, "thing a at 0;thing b at 99;thing c at 1;thing d at 98;^thing e at 1;");
        fault(4, "thing a at ^100;");
        fault(2, "thing a at ^- 1;");
        due("about(1) of none", Calls.told("").about(1), 0);
    }

    private static void signs() {
        by("8 SIGNS (a SHAPE");
        fine(signsTold(8), 8);
        due("about(0)", Calls.told(signsTold(8)).about(0), 8);
        fault(2, signsTold(8) + "^sign i m does t 1;");
        by("a THING told ahead");
        fault(5, "sign a m does ^t 1;" + THING);
        fault(5, THING + "sign a m does ^u 1;thing u at 1;");
        fine(THING + "sign a m does t 1;thing u at 1;sign b m does u 1;", 2);
    }

    private static void shapes() {
        by("a SHAPE: a word of m and o alone, 6 at most, m first and last");
        MeadowSigns x = Calls.told(THING + "sign a m does t 1;sign b mmmmmm does t 1;sign c moooom does t 1;");
        due("glyph(0, 0)", x.glyph(0, 0), 1);
        due("glyph(0, 1)", x.glyph(0, 1), 1);
        due("glyph(1, 0)", x.glyph(1, 0), 63);
        due("glyph(1, 1)", x.glyph(1, 1), 6);
        due("glyph(2, 0)", x.glyph(2, 0), 33);
        fault(4, THING + "sign a ^mmmmmmm does t 1;");
        fault(4, THING + "sign a ^mooooom does t 1;");
        fault(4, THING + "sign a ^o does t 1;");
        fault(4, THING + "sign a ^omm does t 1;");
        fault(4, THING + "sign a ^mmo does t 1;");
        fault(4, THING + "sign a ^mnm does t 1;");
        fault(4, THING + "sign a ^mlm does t 1;");
        fault(4, THING + "sign a ^mpm does t 1;");
    }

    private static void values() {
        by("V -9 .. 9");
        MeadowSigns x = Calls.told(THING + "sign a m does t 9;sign b m does t - 9;sign c m does t -0;sign d m does t 0;");
        due("glyph(0, 3)", x.glyph(0, 3), 9);
        due("glyph(1, 3)", x.glyph(1, 3), -9);
        due("glyph(2, 3)", x.glyph(2, 3), 0);
        due("glyph(3, 3)", x.glyph(3, 3), 0);
        fault(4, THING + "sign a m does t ^10;");
        fault(4, THING + "sign a m does t ^-10;");
    }

    private static String neversTold(int n) {
        StringBuilder text = new StringBuilder(signsTold(8));
        for (int i = 0; i < n; i++) {
            text.append("never ").append((char) ('a' + i / 8)).append(' ').append((char) ('a' + i % 8)).append(';');
        }
        return text.toString();
    }

    private static void nevers() {
        by("10 nevers (two SIGNS told ahead, each two once, in this order)");
        due("about(5)", Calls.told(neversTold(10)).about(5), 10);
        due("about(5) of none", Calls.told(signsTold(8)).about(5), 0);
        fault(2, neversTold(10) + "^never h h;");
        fault(5, THING + "never ^a a;sign a m does t 1;");
        fault(5, THING + "sign a m does t 1;never a ^b;sign b m does t 1;");
        fault(3, SIGNS + "never a b;never a ^b;");
        fault(3, SIGNS + "never b b;never b ^b;");
        fine(SIGNS + "never a b;never b a;never a a;never b b;", 2);
    }

    private static void barns() {
        by("4 BARNS (CELLS, 0 .. size - 1, each once)");
        due("about(4)", Calls.told("barn 0;barn 1;barn 2;barn 11;").about(4), 1 + 2 + 4 + 2048);
        fault(2, "barn 0;barn 1;barn 2;barn 11;^barn 3;");
        fault(4, "barn ^12;");
        due("about(4) of size 4", Calls.told("size 4;barn 3;").about(4), 8);
        fault(4, "size 4;barn ^4;");
        due("about(4) of size 20", Calls.told("size 20;barn 19;").about(4), 1 << 19);
        fault(4, "size 20;barn ^20;");
        fault(3, "barn 0;barn ^0;");
        fault(3, "barn 11;barn 3;barn ^11;");
        due("about(4) of none", Calls.told("").about(4), 0);
    }

    private static void numbering() {
        by("numbered as told, each sort by itself");
        MeadowSigns x = Calls.told("thing b at 5;sign z m does b 1;thing a at 6;sign y mm does a 2;barn 2;thing c at 7;");
        due("thing(0)", x.thing(0), 5);
        due("thing(1)", x.thing(1), 6);
        due("thing(2)", x.thing(2), 7);
        due("glyph(0, 3)", x.glyph(0, 3), 1);
        due("glyph(1, 3)", x.glyph(1, 3), 2);
        due("glyph(1, 2)", x.glyph(1, 2), 1);
    }

    private static void onceEach() {
        by("weigh, grow, draw (0 .. 999; 0) once each");
        due("about(7) of draw 0", Calls.told("draw 0;").about(7), 0);
        due("about(7) of draw 999", Calls.told("draw 999;").about(7), 999);
        due("about(7) if not told", Calls.told("size 5;").about(7), 0);
        fault(4, "draw ^1000;");
        fault(2, "draw 0;^draw 0;");
        fault(2, "weigh 0;^weigh 0;");
        fault(2, "grow 0;^grow 0;");
        fine("weigh 0;grow 0;draw 0;", 0);
        // a draw that was told before does not stay
        MeadowSigns x = Calls.told("draw 7;weigh 3;grow 1;");
        due("meadow() of no text", x.meadow(), 0);
        due("about(7)", x.about(7), 0);
        due("about(13)", x.about(13), 0);
        Calls.feed(x, "draw 8;weigh 3;grow 1;");
        due("meadow() that tells all three again", x.meadow(), 0);
    }

    private static void unitsTooMany() {
        by("60 units in all, 30 in one e");
        String thirty = "1+".repeat(29) + "1";
        due("about(13)", Calls.told("weigh " + thirty + ";grow " + thirty + ";").about(13), 60);
        fault(2, "weigh " + thirty + "+^1;");
        fault(2, "grow " + thirty + "+^1;");
        fault(2, "grow 1;weigh " + thirty + "+^age;");
        // ( e ) is a unit, too
        due("about(13) of (1)", Calls.told("weigh (1);").about(13), 2);
        due("about(13) of ((1)+2)", Calls.told("weigh ((1)+2);").about(13), 4);
        due("about(13) of not 1", Calls.told("weigh not 1;").about(13), 1);
        fine("weigh (" + "1+".repeat(28) + "1);", 0);
        fault(2, "weigh (" + thirty.substring(0, 58) + "^1);");
        fault(2, "weigh " + thirty + "+^(1);");
        fine("weigh " + "1 < 2 and ".repeat(14) + "3 < 4;", 0);
        fault(2, "weigh " + "1 < 2 and ".repeat(15) + "^3 < 4;");
        due("about(13) of none", Calls.told("").about(13), 0);
        // those of the text before do not count
        MeadowSigns x = Calls.told("weigh " + thirty + ";grow " + thirty + ";");
        Calls.feed(x, "grow " + thirty + ";");
        due("meadow()", x.meadow(), 0);
        due("about(13)", x.about(13), 30);
    }

    private static void within() {
        by("(a unit ( e ), or a one behind not, within 6 others at most)");
        fine("weigh " + "(".repeat(7) + "1" + ")".repeat(7) + ";", 0);
        fault(2, "weigh " + "(".repeat(7) + "^(1" + ")".repeat(8) + ";");
        fine("weigh " + "not ".repeat(7) + "1;", 0);
        fault(2, "weigh " + "not ".repeat(7) + "^not 1;");
        fine("grow " + "not(".repeat(3) + "not 1" + ")".repeat(3) + ";", 0);
        fault(2, "grow " + "not(".repeat(3) + "not ^(1" + ")".repeat(4) + ";");
        fault(2, "grow (" + "not(".repeat(3) + "^not 1" + ")".repeat(4) + ";");
        // what is beside, not around, does not count
        String seven = "(".repeat(7) + "1" + ")".repeat(7);
        fine("weigh " + seven + "+" + seven + "*" + seven + ";", 0);
        fine("weigh not not not not not not not 1 or not not not not not not not 1;", 0);
        fine("weigh not 1 and not 1 and not 1 and not 1 and not 1 and not 1 and not 1 and not 1 and not 1;", 0);
    }

    private static void words() {
        by("words (a .. z, 8 at most)");
        fine("thing abcdefgh at 1;thing a at 1;thing zzzzzzzz at 2;", 0);
        fault(1, "thing ^abcdefghi at 1;");
        fault(1, "^thingthing");
        fault(1, "thing ^A at 1;");
        fault(1, "thing a^Z at 1;");
        fault(1, "thing ^` at 1;");
        fault(1, "thing ^{ at 1;");
        // words of 8 letters that are unlike in one alone are two
        fine("thing abcdefgh at 1;thing abcdefgi at 1;thing bbcdefgh at 1;thing abcdefg at 1;", 0);
        fault(3, "thing abcdefgh at 1;thing ^abcdefgh at 1;");
    }

    private static void numbers() {
        by("N (1 to 4 digits)");
        fine("size 4;draw 9;", 0);
        fine("size 0004;weigh 9999;", 0);
        fault(1, "size ^00004;");
        fault(1, "weigh ^10000;");
        fault(1, "weigh ^99999999999999999999;");
        fault(1, "weigh ^:");
        MeadowSigns x = Calls.told("size 4;thing t at 1;sign a m does t 1;weigh 9999-9988;");
        x.mow(0);
        due("weight()", x.weight(), 11);
    }

    private static void marks() {
        by("signs ; ( ) < > = + - * / %");
        fine("weigh (1<2)+(3>4)-(5=6)*7/8%9;", 0);
        for (int c = 0; c < 256; c++) {
            boolean letter = c >= 'a' && c <= 'z';
            boolean digit = c >= '0' && c <= '9';
            if (!letter && !digit && c != ' ' && c != '\n' && ";()<>=+-*/%".indexOf(c) < 0) {
                fault(1, "weigh 1 ^" + (char) c);
            }
        }
        for (char c : ";)<>=+-*/%".toCharArray()) {
            fault(2, "weigh ^" + c);
            fault(2, "^" + c);
        }
        fault(2, "^(");
    }

    private static void blanks() {
        by("blanks (32, 10) part them or not");
        fine("\n size\n \n4 \n;\nthing\nt\nat\n1\n;\n", 0);
        fine("size4;thing t at1;sign a m does t-1;weigh(1)+2<3 and(4)or(not(5));", 1);
        fault(1, "size^\t4;");
        fault(1, "size^\r4;");
        fault(1, "size 4;^\u000b");
        fault(1, "size 4;^\u00a0");
        fault(1, "size 4;^\u0000");
    }

    private static void asLongAsCanBe() {
        by("each is as long as can be");
        fault(2, "^sizes 4;");
        fault(2, "thing ^at 5;");
        fine("thing ata at 5;", 0);
        fault(2, "thing ta ^tat 5;");
        fault(4, "size ^123;");
        fault(2, "weigh ^longplac;");
        fault(2, "weigh not1 ^2;");
        fault(2, "weigh ^nota;");
    }

    private static void letterBehindNumber() {
        by("no letter directly behind an N");
        fault(1, "size ^4a;");
        fault(1, "weigh ^1or 2;");
        fault(1, "weigh 1<^2and 3;");
        fault(1, THING + "sign a m does t - ^1m;");
        fine("weigh 1 or 2;", 0);
        fine("weigh 1\nor 2;", 0);
    }

    private static void noNames() {
        by("Words that stand for themselves here are no NAMES");
        for (String word : WORDS) {
            fault(2, "thing ^" + word + " at 1;");
            fault(2, THING + "sign ^" + word + " m does t 1;");
            fault(2, THING + "sign a m does ^" + word + " 1;");
            fault(2, SIGNS + "never ^" + word + " a;");
            fault(2, SIGNS + "never a ^" + word + ";");
            fine("thing x" + word + " at 1;", 0);
        }
        // m and o stand in shapes alone
        fine("thing m at 1;sign mom mom does m 1;sign o m does m 1;", 2);
    }

    private static void firstFault() {
        by("FAULTS, the first by its place (bytes from 0; the end: the text's length)");
        fault(2, "^at size 3;");
        fault(4, "size ^3;at # 12345");
        fault(5, "sign a m does ^t 10;#");
        fault(3, "barn 1;barn ^1;barn 99;");
        fault(1, "size ^#;size 3;");
        fault(2, "size 5^");
        fault(2, "size 5 \n ^");
        fault(2, "size^");
        fault(2, "weigh (1^");
        fault(2, THING + "sign a m does t -^");
    }

    private static void leastFault() {
        by("at one place the least");
        // no TOKEN, where one of another sort should stand anyway
        fault(1, "^#");
        fault(1, "size ^Q");
        fault(1, "size 5 ^55555");
        fault(1, "weigh 1 ^1a");
        fault(1, THING + "sign a ^mmmmmmmmm does t 1;");
        fault(1, "size ^99999;");
        // one too many comes ahead of what else is wrong with the line
        fault(2, "barn 0;barn 1;barn 2;barn 3;^barn 3;");
        fault(2, "size 4;^size 3;");
        fault(2, "weigh 1;^weigh ;");
        fault(2, neversTold(10) + "^never a a;");
        fault(2, signsTold(8) + "^sign a o does u 10;");
    }

    private static void noToken() {
        by("1 no TOKEN");
        fault(1, "size 5^.");
        fault(1, "^Z");
        fault(1, "size 5; ^\u0080");
        fault(1, "size 5; ^\u00ff");
        fault(1, "size 5; ^\u007f");
    }

    private static void cannotStand() {
        by("2 one that can't stand there");
        fault(2, "^5 size;");
        fault(2, "^name");
        fault(2, "size ^size;");
        fault(2, "size 5 ^6;");
        fault(2, "size 5;^;");
        fault(2, "thing ^5 at 5;");
        fault(2, "thing t ^5;");
        fault(2, "thing t at ^at;");
        fault(2, "thing t at 5^)");
        fault(2, THING + "sign a ^1 does t 1;");
        fault(2, THING + "sign a ^;");
        fault(2, THING + "sign a ^- m does t 1;");
        fault(2, THING + "sign a m ^at t 1;");
        fault(2, THING + "sign a m does ^1;");
        fault(2, THING + "sign a m does t ^t;");
        fault(2, THING + "sign a m does t -^-1;");
        fault(2, THING + "sign a m does t 1 ^1;");
        fault(2, SIGNS + "never a ^1;");
        fault(2, SIGNS + "never a b ^b;");
        fault(2, "barn ^-1;");
        fault(2, "barn 1 ^2;");
        fault(2, "draw ^;");
        fault(2, "weigh 1 < 2 ^= 3;");
        fault(2, "weigh 1 ^not 2;");
        fault(2, "weigh 1 + ^not 2;");
        fault(2, "weigh 1 < ^not 2;");
        fault(2, "weigh (^)");
        fault(2, "weigh (1 ^2);");
        fault(2, "grow 1 and ^;");
        fault(2, "weigh not ^;");
        fault(2, "weigh (not ^);");
        fault(2, "weigh 1 and not not ^;");
    }

    private static void lineTooMany() {
        by("(one of a sort too many, a second time, size behind another line: at the line's first word");
        fault(2, "thing a at 1;thing b at 1;thing c at 1;thing d at 1;\n  ^thing");
        fault(2, signsTold(8) + " ^sign");
        fault(2, neversTold(10) + " ^never");
        fault(2, "barn 0;barn 1;barn 2;barn 3; ^barn");
        fault(2, "draw 1; ^draw");
        fault(2, "weigh 1; ^weigh");
        fault(2, "grow 1; ^grow");
        fault(2, "size 5; ^size");
        String[] others = {"thing t at 1;", SIGNS, SIGNS + "never a b;", "barn 1;", "weigh 1;", "grow 1;", "draw 1;"};
        for (String other : others) {
            fault(2, other + " ^size 5;");
        }
        by("a unit too many, what is within 7 others: at its first TOKEN, or the not)");
        fault(2, "weigh " + "1+".repeat(30) + " ^long;");
        fault(2, "weigh " + "1+".repeat(30) + " ^(long);");
        fault(2, "weigh " + "1 and ".repeat(30) + "not ^long;");
        fault(2, "weigh " + "( ".repeat(7) + " ^( 1");
        fault(2, "weigh " + "not ".repeat(7) + " ^not ");
    }

    private static void toldAlready() {
        by("3 a NAME told already (of its sort), a pair (at the second NAME), a BARN told already");
        fault(3, "thing a at 1;thing b at 1;thing ^a at 1;");
        fault(3, SIGNS + "sign ^b m does t 1;");
        fine("thing a at 1;sign a m does a 1;", 1);
        fault(3, SIGNS + "never a b;never b b;never a ^b");
        fault(3, "barn 1;barn 2;barn ^1");
        fault(3, "barn 1;barn 2;barn ^0002");
    }

    private static void cannotBe() {
        by("4 a number that can't be (of V at its sign, if it has one), a word (any one) that is no SHAPE");
        fault(4, "size ^3 x");
        fault(4, "size ^21");
        fault(4, "thing t at ^100");
        fault(4, "barn ^12");
        fault(4, "draw ^1000");
        fault(4, THING + "sign a m does t ^10");
        fault(4, THING + "sign a m does t ^- 10");
        fault(4, THING + "sign a m does t ^-\n9999");
        fault(4, THING + "sign a ^x");
        fault(4, THING + "sign a ^t");
        for (String word : WORDS) {
            fault(4, THING + "sign a ^" + word);
        }
    }

    private static void nothingHas() {
        by("5 a NAME that nothing of the sort has");
        fault(5, "sign a m does ^t");
        fault(5, SIGNS + "sign c m does ^a 1;");
        fault(5, SIGNS + "never ^t a;");
        fault(5, SIGNS + "never a ^t;");
        fault(5, SIGNS + "never a ^ab;");
        // names of the text before are told no more
        MeadowSigns x = Calls.told(SIGNS + "never a b;");
        Calls.feed(x, "sign c m does t 1;");
        due("meadow()", x.meadow(), -1);
        due("fault(0)", x.fault(0), 5);
    }

    private static void newObject() {
        by("An empty MEADOW (12 CELLS).");
        MeadowSigns x = new MeadowSigns();
        int[] want = {0, 0, 12, 0, 0, 0, 0, 0, 0, 0, 0, 0, 0, 0, 0};
        for (int i = 0; i < want.length; i++) {
            due("about(" + i + ")", x.about(i), want[i]);
        }
        due("plot(11, 0)", x.plot(11, 0), 0);
        due("plot(12, 0)", x.plot(12, 0), -2);
        due("readings()", x.readings(), 1);
        due("lies(0)", x.lies(0), -1);
        due("undo()", x.undo(), false);
        due("back(0)", x.back(0), -1);
        due("year()", x.year(), 0);
    }

    private static void feed() {
        by("Twenty bytes come behind those on the TAPE, of each number the highest first: how many there are");
        MeadowSigns x = new MeadowSigns();
        // "size 7;thing t at 1;" and "thing u at 2;       "
        due("feed", x.feed(0x73697a65, 0x20373b74, 0x68696e67, 0x20742061, 0x7420313b), 20);
        due("feed", x.feed(0x7468696e, 0x67207520, 0x61742032, 0x3b202020, BLANKS), 40);
        due("about(12)", x.about(12), 40);
        due("meadow()", x.meadow(), 0);
        due("about(2)", x.about(2), 7);
        due("thing(0)", x.thing(0), 1);
        due("thing(1)", x.thing(1), 2);
        // bytes of numbers below 0, too
        due("feed", x.feed(BLANKS, BLANKS, BLANKS, BLANKS, 0x202020ff), 20);
        due("meadow()", x.meadow(), -1);
        due("fault(1)", x.fault(1), 19);
        due("end(0)", x.end(0), 0);
        due("feed", x.feed(-1, 0, Integer.MIN_VALUE, Integer.MAX_VALUE, BLANKS), 20);
        due("meadow()", x.meadow(), -1);
        due("fault(1)", x.fault(1), 0);
    }

    private static void feedTooMuch() {
        by("NONE, and nothing comes, if there would be more than 1,600");
        MeadowSigns x = new MeadowSigns();
        for (int i = 1; i <= 80; i++) {
            due("feed", x.feed(BLANKS, BLANKS, BLANKS, BLANKS, BLANKS), 20 * i);
        }
        due("feed behind 1,600", x.feed(0, 0, 0, 0, 0), -1);
        due("about(12)", x.about(12), 1600);
        due("end(1581)", x.end(1581), 1581);
        due("feed behind 1,581", x.feed(0, 0, 0, 0, 0), -1);
        due("about(12)", x.about(12), 1581);
        due("meadow(): nothing came", x.meadow(), 0);
        Calls.feed(x, " ".repeat(1580));
        due("feed behind 1,580", x.feed(BLANKS, BLANKS, BLANKS, BLANKS, BLANKS), 1600);
    }

    private static void end() {
        by("The TAPE has its first n bytes: n");
        MeadowSigns x = new MeadowSigns();
        Calls.feed(x, "size 15;barn 3;");
        due("end(15), as many as there are", x.end(15), 15);
        due("end(14)", x.end(14), 14);
        due("about(12)", x.about(12), 14);
        due("end(15): those behind are gone", x.end(15), -1);
        due("end(8)", x.end(8), 8);
        due("meadow()", x.meadow(), 0);
        due("about(2)", x.about(2), 15);
        due("about(4)", x.about(4), 0);
        Calls.feed(x, "size 15;");
        due("end(0)", x.end(0), 0);
        due("about(12)", x.about(12), 0);
        due("end(0) of an empty tape", x.end(0), 0);
        // what was cut is not read as a part of what is left
        cut("barnx", 4, 2, 4);
        cut("barn 1;barn12", 11, 2, 11);
        cut("size 3;", 6, 4, 5);
        cut("size 43;", 6, 2, 6);
        cut("size 4;;", 7, 0, -1);
        cut("size 4;#", 7, 0, -1);
        cut("weigh 1a", 7, 2, 7);
        cut("weigh 12345", 10, 2, 10);
    }

    private static void cut(String text, int n, int fault, int place) {
        MeadowSigns x = new MeadowSigns();
        Calls.feed(x, text);
        due("end(" + n + ") of " + text, x.end(n), n);
        due("meadow() of what is left of " + text, x.meadow(), fault == 0 ? 0 : -1);
        due("fault(0) of what is left of " + text, x.fault(0), fault);
        due("fault(1) of what is left of " + text, x.fault(1), place);
    }

    private static void endRefused() {
        by("NONE, doing nothing, if it has not so many, or n is below 0.");
        MeadowSigns x = new MeadowSigns();
        due("end(1) of an empty tape", x.end(1), -1);
        due("end(-1) of an empty tape", x.end(-1), -1);
        Calls.feed(x, "size 15;");
        due("end(9)", x.end(9), -1);
        due("end(-1)", x.end(-1), -1);
        due("end of the least int", x.end(Integer.MIN_VALUE), -1);
        due("end of the greatest int", x.end(Integer.MAX_VALUE), -1);
        due("about(12)", x.about(12), 8);
        due("meadow()", x.meadow(), 0);
        due("about(2)", x.about(2), 15);
    }

    private static MeadowSigns used() {
        MeadowSigns x = Calls.told("size 9;thing t at 7;sign a m does t 1;sign b mom does t 2;barn 2;draw 5;weigh 1+2;"
            + "never a a;");
        x.mow(4);
        x.year();
        x.year();
        x.undo();
        x.image(0);
        x.image(1);
        x.image(2);
        x.heard(0, 0, -1, true);
        x.later(4);
        due("taken()", x.taken(), 1);
        return x;
    }

    private static void meadowBegins() {
        by("(nothing is MOWN, all as told, no ACTS are kept, nothing is HEARD, nothing lies there, BOXES are empty then; "
            + "the TIME stays): how many SIGNS");
        MeadowSigns x = used();
        Calls.feed(x, "thing s at 2;sign c m does s 1;draw 12;");
        due("meadow()", x.meadow(), 1);
        int[] want = {1, 1, 12, 0, 0, 0, 0, 12, 0, 0, 0, 4, 0, 0, 0};
        for (int i = 0; i < want.length; i++) {
            due("about(" + i + ")", x.about(i), want[i]);
        }
        due("thing(0)", x.thing(0), 2);
        due("lies(0)", x.lies(0), -1);
        due("undo()", x.undo(), false);
        due("redo()", x.redo(), false);
        for (int box = 0; box < 3; box++) {
            due("back(" + box + ")", x.back(box), -1);
        }
        due("untell(0)", x.untell(0), false);
        due("heard is numbered from 0 again", x.heard(0, 0, -1, true), 0);
        due("fit(3): told at 4", x.fit(3), 2);
        due("fit(4)", x.fit(4), 1);
        due("plot(4, 0)", x.plot(4, 0), 0);
    }

    /** Answers by all that a text tells; the same calls on any object that was told the same. */
    private static String answers(MeadowSigns x) {
        StringBuilder all = new StringBuilder();
        for (int what = 0; what < 11; what++) {
            all.append(x.about(what)).append(' ');
        }
        all.append(x.about(13)).append(' ').append(x.about(14)).append(' ').append(x.thing(0)).append(' ').append(x.glyph(1, 0));
        for (int cell = 0; cell < 8; cell += 3) {
            all.append(' ').append(x.mow(cell)).append(' ').append(x.readings()).append(' ').append(x.taken());
            all.append(' ').append(x.weight()).append(' ').append(x.plain()).append(' ').append(x.turn(0, 3));
            all.append(' ').append(x.watch()).append(' ').append(x.write(1, 0, -1)).append(' ').append(x.will(0, 9));
        }
        for (int year = 0; year < 3; year++) {
            all.append(' ').append(x.year()).append(' ').append(x.about(3)).append(' ').append(x.about(7));
        }
        while (x.undo()) {
            all.append(' ').append(x.about(3)).append(' ').append(x.thing(0)).append(' ').append(x.about(7));
        }
        return all.toString();
    }

    private static void meadowAgain() {
        by("The TAPE (empty then) is the MEADOW (nothing is MOWN, all as told");
        String[] texts = {
            "size 20;thing t at 9;sign a m does t 1;sign b mm does t - 1;sign c mom does t 3;never a a;never b a;barn 12;"
                + "weigh long*9+place;grow age>1;draw 123;",
            "",
            "size 5;thing t at 3;sign a mm does t 1;sign b m does t 2;barn 1;weigh 0-long;",
            "thing u at 1;thing t at 2;sign b m does t 1;sign a moom does u - 2;never b b;never b a;",
            "size 14;thing t at 4;sign a m does t 1;sign b m does t 1;weigh place*place;draw 7;"};
        MeadowSigns x = new MeadowSigns();
        for (int i = 0; i < 7; i++) {
            String text = texts[i * 3 % 5];
            Calls.feed(x, text);
            x.meadow();
            due("answers of '" + text + "' as of a new object", answers(x).equals(answers(Calls.told(text))), true);
        }
        for (int i = 0; i < 5; i++) {
            MeadowSigns y = Calls.told(texts[i]);
            answers(y);
            for (int again = 0; again < 2; again++) {
                Calls.feed(y, "size 8;");
                y.meadow();
            }
            due("about(2)", y.about(2), 8);
            for (int again = 0; again < 2; again++) {
                due("meadow() of no text", y.meadow(), 0);
                due("answers of no text as of a new object", answers(y).equals(answers(new MeadowSigns())), true);
            }
        }
    }

    private static void meadowRefused() {
        by("NONE: a FAULT (all stays).");
        MeadowSigns x = used();
        int[] before = new int[15];
        for (int i = 0; i < 15; i++) {
            before[i] = x.about(i);
        }
        String bad = "size 5;thing u at 3;sign c mm does u 1;barn 1;draw 9;weigh 7;grow 1;never c c;sign";
        Calls.feed(x, bad);
        due("meadow()", x.meadow(), -1);
        for (int i = 0; i < 15; i++) {
            due("about(" + i + ")", x.about(i), i == 12 ? bad.length() : before[i]);
        }
        due("glyph(1, 0)", x.glyph(1, 0), 5);
        due("thing(0)", x.thing(0), 9);
        due("weight()", x.weight(), 3);
        due("lies(0)", x.lies(0), 21);
        due("fit(4)", x.fit(4), 8);
        due("redo()", x.redo(), true);
        due("about(6)", x.about(6), 2);
        due("undo()", x.undo(), true);
        for (int box = 0; box < 3; box++) {
            due("back(" + box + ")", x.back(box), 1);
        }
        due("meadow() again", x.meadow(), -1);
        due("end", x.end(bad.length() - 4), bad.length() - 4);
        due("meadow() without what was wrong", x.meadow(), 1);
        due("about(2)", x.about(2), 5);
    }

    private static void fault() {
        by("Of the latest meadow() what 0: its FAULT (0), 1: its place (NONE). NONE for another what.");
        MeadowSigns x = new MeadowSigns();
        due("fault(0) ahead of a meadow()", x.fault(0), 0);
        due("fault(1) ahead of a meadow()", x.fault(1), -1);
        Calls.feed(x, "size 3;");
        due("fault(0) ahead of a meadow()", x.fault(0), 0);
        x.meadow();
        due("fault(0)", x.fault(0), 4);
        due("fault(1)", x.fault(1), 5);
        due("fault(2)", x.fault(2), -1);
        due("fault(-1)", x.fault(-1), -1);
        x.end(0);
        due("fault(0) stays", x.fault(0), 4);
        x.meadow();
        due("fault(0)", x.fault(0), 0);
        due("fault(1)", x.fault(1), -1);
        due("fault(2)", x.fault(2), -1);
        Calls.feed(x, "!");
        x.meadow();
        due("fault(0)", x.fault(0), 1);
        due("fault(1) at the first byte", x.fault(1), 0);
    }
}
