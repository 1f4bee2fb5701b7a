/** Texts with faults (promises 4 and 5). A ^ stands ahead of the place where the fault is. */
public final class FaultTest {
    private static final String THINGS = "thing t at 1;";
    private static final String SIGNS = THINGS + "sign a m does t 1;sign b mm does t 2;";

    private FaultTest() {
    }

    public static void main(String[] args) {
        tokens();
        lines();
        names();
        numbers();
        shapes();
        counts();
        formulas();
        good();
        stays();
        Calls.finish();
    }

    private static void fault(int want, String marked) {
        Calls.fault(want, marked);
    }

    private static void fine(String text, int signs) {
        Calls.fine(text, signs);
    }

    private static String times(String text, int n) {
        return text.repeat(n);
    }

    private static void tokens() {
        fault(1, "^#");
        fault(1, "  \n ^Size 5;");
        fault(1, "size^\t5;");
        fault(1, "size 5;^\u0000");
        fault(1, "size 5;^\u00ff");
        fault(1, "size 5^,");
        fault(1, "thing ^abcdefghi at 5;");
        fault(1, "^abcdefghi");
        fault(1, "size ^12345;");
        fault(1, "size ^00005;");
        fault(1, "size ^5a;");
        fault(1, "size ^99size;");
        fault(1, "weigh 1 + ^2or 3;");
        fault(1, THINGS + "sign a ^mmmmmmmmm does t 1;");
        fault(1, THINGS + "sign a m does t -^1x;");
        fault(1, THINGS + "sign a m does t - ^#;");
        fault(1, "weigh ^1m;");
        fault(1, "weigh 1<^2and 3;");
        fault(2, "size ^;");
    }

    private static void lines() {
        fault(2, "^;");
        fault(2, "^5;");
        fault(2, "^meadow");
        fault(2, "^at");
        fault(2, "^thingx at 5;");
        fault(2, "size 5^");
        fault(2, "size 5  \n^");
        fault(2, "size^");
        fault(2, "size ^-5;");
        fault(2, "size 5 ^5;");
        fault(2, "size 5;^size 5;");
        fault(2, "barn 1;^size 5;");
        fault(2, "draw 1;^size");
        fault(2, "draw 1;^draw 2;");
        fault(2, "draw 1;^draw");
        fault(2, "weigh 1;^weigh");
        fault(2, "grow 1;weigh 1;^grow 1;");
        fault(2, "thing t ^5;");
        fault(2, "thing t at ^x;");
        fault(2, "thing t at 5 ^at;");
        fault(2, "thing t at 5^");
        fault(2, "barn ^x;");
        fault(2, "draw ^x;");
        fault(2, THINGS + "sign a ^5 does t 1;");
        fault(2, THINGS + "sign a ^;");
        fault(2, THINGS + "sign a m ^t 1;");
        fault(2, THINGS + "sign a m does t ^;");
        fault(2, THINGS + "sign a m does t - ^;");
        fault(2, THINGS + "sign a m does t - ^- 1;");
        fault(2, THINGS + "sign a m does t ^+ 1;");
        fault(2, SIGNS + "never a ^;");
        fault(2, SIGNS + "never a b ^a;");
    }

    private static void names() {
        fault(2, "thing ^thing at 5;");
        fault(2, "thing ^at at 5;");
        fault(2, "thing ^dry at 5;");
        fault(2, "thing ^5 at 5;");
        String[] words = {"size", "thing", "sign", "never", "barn", "weigh", "grow", "draw", "at", "does", "or", "and",
            "not", "long", "place", "year", "much", "age", "dry"};
        for (String word : words) {
            fault(2, THINGS + "sign ^" + word + " m does t 1;");
            fault(2, THINGS + "sign a m does ^" + word + " 1;");
            fault(2, SIGNS + "never ^" + word + " a;");
            fault(2, SIGNS + "never a ^" + word + ";");
            fault(4, THINGS + "sign a ^" + word + " does t 1;");
        }
        fault(3, "thing t at 5;thing ^t at 6;");
        fault(3, SIGNS + "sign ^a m does t 1;");
        fault(3, SIGNS + "never a b;never b a;never a ^b;");
        fault(3, SIGNS + "never a a;never a ^a;");
        fault(3, "barn 3;barn 4;barn ^3;");
        fault(3, "barn 3;barn ^003;");
        fault(5, "sign a m does ^t 1;thing t at 1;");
        fault(5, SIGNS + "sign c m does ^a 1;");
        fault(5, SIGNS + "never ^t a;");
        fault(5, SIGNS + "never a ^c;");
        fault(5, "never ^a b;");
    }

    private static void numbers() {
        fault(4, "size ^3;");
        fault(4, "size ^21;");
        fault(4, "size ^3");
        fault(4, "size ^0;");
        fault(4, "size ^9999;");
        fault(4, "thing t at ^100;");
        fault(4, "barn ^12;");
        fault(4, "size 4;barn ^4;");
        fault(4, "draw ^1000;");
        fault(4, THINGS + "sign a m does t ^10;");
        fault(4, THINGS + "sign a m does t ^- 10;");
        fault(4, THINGS + "sign a m does t ^-\n0010");
        fault(4, THINGS + "sign a m does t ^10");
    }

    private static void shapes() {
        fault(4, THINGS + "sign a ^o does t 1;");
        fault(4, THINGS + "sign a ^mo does t 1;");
        fault(4, THINGS + "sign a ^om does t 1;");
        fault(4, THINGS + "sign a ^mxm does t 1;");
        fault(4, THINGS + "sign a ^mmmmmmm does t 1;");
        fault(4, THINGS + "sign a ^t;");
        fault(4, THINGS + "sign a ^does t 1;");
    }

    private static void counts() {
        fault(2, "thing a at 1;thing b at 1;thing c at 1;thing d at 1;^thing a at 1;");
        StringBuilder signs = new StringBuilder(THINGS);
        for (int i = 0; i < 8; i++) {
            signs.append("sign ").append((char) ('a' + i)).append(" m does t 1;");
        }
        fine(signs.toString(), 8);
        fault(2, signs + "^sign a m does t 1;");
        StringBuilder nevers = new StringBuilder(signs);
        for (int i = 0; i < 10; i++) {
            nevers.append("never ").append((char) ('a' + i / 4)).append(' ').append((char) ('a' + i % 4)).append(';');
        }
        fine(nevers.toString(), 8);
        fault(2, nevers + "^never a a;");
        fine("barn 0;barn 1;barn 2;barn 11;", 0);
        fault(2, "barn 0;barn 1;barn 2;barn 11;^barn 0;");
    }

    private static void formulas() {
        fault(2, "weigh ^;");
        fault(2, "weigh^");
        fault(2, "weigh 1 + ^;");
        fault(2, "weigh 1 + ^not 1;");
        fault(2, "weigh ^- 1;");
        fault(2, "weigh 1 < 2 ^< 3;");
        fault(2, "weigh 1 ^2;");
        fault(2, "weigh ^t;");
        fault(2, "weigh (^);");
        fault(2, "weigh (1^;");
        fault(2, "weigh 1^);");
        fault(2, "weigh 1 and ^or 1;");
        fault(2, "weigh not ^;");
        fault(2, "weigh ^size;");
        fault(2, "grow long ^place;");
        fine("weigh " + times("1+", 29) + "1;", 0);
        fault(2, "weigh " + times("1+", 30) + "^1;");
        fault(2, "weigh " + times("1+", 29) + "(^1);");
        fault(2, "weigh (" + times("1+", 28) + "1)+^dry;");
        fine("weigh " + times("1+", 29) + "1;grow " + times("1 or ", 29) + "1;", 0);
        fault(2, "weigh " + times("1+", 29) + "1;grow " + times("1 or ", 30) + "^1;");
        fine("weigh " + times("(", 7) + "1" + times(")", 7) + ";", 0);
        fault(2, "weigh " + times("(", 7) + "^(1" + times(")", 8) + ";");
        fine("weigh " + times("not ", 7) + "1;", 0);
        fault(2, "weigh " + times("not ", 7) + "^not 1;");
        fine("weigh not (not (not (not 1)));", 0);
        fine("weigh not not (not (not (1)));", 0);
        fault(2, "weigh not not not (not (not ^(1)));");
        fault(2, "weigh not not not not (not (^not 1));");
        fine("weigh not not not not not not not 1 and not not not not not not not 1;", 0);
        fine("weigh (((((((1)))))))+(((((((2)))))));", 0);
    }

    private static void good() {
        fine("", 0);
        fine("  \n\n ", 0);
        fine("size4;thing t at0;sign a mom does t-9;", 1);
        fine("size 0020;thing t at 0099;sign m mmmmmm does t 0009;never m m;barn 19;draw 999;", 1);
        fine("thing a at 1;sign a m does a - 0;", 1);
        fine("weigh 1<2 and 3>4 or not(5=6)%7;", 0);
        fine("thing abcdefgh at 1;sign abcdefgh m does abcdefgh 1;never abcdefgh abcdefgh;", 1);
        fine("thing sizes at 1;thing siz at 2;thing m at 3;thing ands at 4;", 0);
    }

    /** Behind a fault all is as it was, the tape too. */
    private static void stays() {
        MeadowSigns x = Calls.told("size 9;thing t at 7;sign a m does t 1;barn 2;draw 5;weigh 1+2;");
        x.mow(3);
        x.year();
        x.image(1);
        x.heard(0, 0, -1, true);
        x.later(4);
        Calls.due("taken()", x.taken(), 2);
        int[] before = new int[15];
        for (int i = 0; i < 15; i++) {
            before[i] = x.about(i);
        }
        String bad = "size 5;thing u at 3;sign";
        Calls.feed(x, bad);
        Calls.due("meadow()", x.meadow(), -1);
        for (int i = 0; i < 15; i++) {
            Calls.due("about(" + i + ") behind a fault", x.about(i), i == 12 ? bad.length() : before[i]);
        }
        Calls.due("thing(0)", x.thing(0), 9);
        Calls.due("lies(0)", x.lies(0), 20);
        Calls.due("end(20)", x.end(20), 20);
        Calls.due("meadow()", x.meadow(), 0);
        Calls.due("fault(0)", x.fault(0), 0);
        Calls.due("fault(1)", x.fault(1), -1);
        Calls.due("thing(0)", x.thing(0), 3);
        Calls.due("about(11)", x.about(11), 4);
        for (int i : new int[] {3, 4, 5, 6, 7, 8, 9, 10, 12, 13, 14}) {
            Calls.due("about(" + i + ") of a new meadow", x.about(i), 0);
        }
        Calls.due("back(1)", x.back(1), -1);
    }
}
