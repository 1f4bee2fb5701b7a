/** Each sentence that names a boundary of what is heard, of images and of about (section 4, promises 29 to 37), by itself. */
public final class HearEdgeTest {
    private static final int LEAST = Integer.MIN_VALUE;
    private static final int GREATEST = Integer.MAX_VALUE;

    private HearEdgeTest() {
    }

    public static void main(String[] args) {
        thirtyHeard();
        toldAndUntold();
        firstFourSigns();
        countsAtTimes();
        rows();
        grammars();
        sureInAll();
        fewestAtTheMost();
        heard();
        untell();
        later();
        fit();
        sure();
        ask();
        image();
        back();
        about();
        Calls.finish();
    }

    private static void by(String words) {
        Calls.by(words);
    }

    private static void due(String call, long got, long want) {
        Calls.due(call, got, want);
    }

    private static void due(String call, boolean got, boolean want) {
        Calls.due(call, got, want);
    }

    private static MeadowSigns withSigns(int n) {
        StringBuilder text = new StringBuilder("thing t at 1;");
        for (int i = 0; i < n; i++) {
            text.append("sign ").append((char) ('a' + i)).append(" m does t 1;");
        }
        return Calls.told(text.toString());
    }

    private static void thirtyHeard() {
        by("HEARD, 30 at most, is TOLD at a TIME (0 at first, goes on)");
        MeadowSigns x = withSigns(2);
        due("about(11)", x.about(11), 0);
        for (int i = 0; i < 30; i++) {
            due("heard", x.heard(0, 1, -1, true), i);
        }
        due("heard of a 31st", x.heard(0, 0, -1, false), -1);
        due("about(10)", x.about(10), 30);
        due("fit(0): the 31st does not count", x.fit(0), 8);
        due("untell(29)", x.untell(29), true);
        due("untell(30)", x.untell(30), false);
        due("heard, though one is untold", x.heard(0, 0, -1, false), -1);
        x.meadow();
        due("about(10) of another meadow", x.about(10), 0);
    }

    private static void toldAndUntold() {
        by("UNTOLD at a later one or the same");
        MeadowSigns x = withSigns(1);
        x.later(5);
        x.heard(0, 0, -1, true);
        due("fit(5)", x.fit(5), 1);
        due("untell(0) at the same time", x.untell(0), true);
        due("fit(4)", x.fit(4), 2);
        due("fit(5): it never counted", x.fit(5), 2);
        due("fit(6)", x.fit(6), 2);
        x.heard(0, 0, -1, true);
        x.later(1);
        due("untell(1) later", x.untell(1), true);
        due("fit(4)", x.fit(4), 2);
        due("fit(5)", x.fit(5), 1);
        due("fit(6)", x.fit(6), 2);
    }

    private static void firstFourSigns() {
        by("two or three of the first four SIGNS, one behind the other, were understood, or not");
        MeadowSigns x = withSigns(8);
        due("heard(3, 3, 3, true)", x.heard(3, 3, 3, true), 0);
        due("heard(3, 0, -1, false)", x.heard(3, 0, -1, false), 1);
        due("heard(4, 0, -1, true)", x.heard(4, 0, -1, true), -1);
        due("heard(0, 4, -1, true)", x.heard(0, 4, -1, true), -1);
        due("heard(0, 0, 4, true)", x.heard(0, 0, 4, true), -1);
        due("sure(3, 3, 0)", x.sure(3, 3, 0), 1);
        due("sure(3, 0, 0)", x.sure(3, 0, 0), 0);
        due("sure(0, 3, 0)", x.sure(0, 3, 0), -2);
        MeadowSigns y = withSigns(3);
        due("heard(2, 2, -1, true)", y.heard(2, 2, -1, true), 0);
        due("heard(3, 0, -1, true): there are three", y.heard(3, 0, -1, true), -1);
        due("heard(0, 3, -1, true)", y.heard(0, 3, -1, true), -1);
        due("heard(0, 0, 3, true)", y.heard(0, 0, 3, true), -1);
        due("heard(0, 0, -1, true) without signs", new MeadowSigns().heard(0, 0, -1, true), -1);
    }

    private static void countsAtTimes() {
        by("As known at k that counts that was TOLD at k or before, not UNTOLD at k or before.");
        MeadowSigns x = withSigns(1);
        x.later(10);
        x.heard(0, 0, -1, false);
        x.later(10);
        x.untell(0);
        x.later(10);
        int[] want = {2, 2, 1, 1, 1, 2, 2, 2};
        int[] times = {0, 9, 10, 11, 19, 20, 21, 30};
        for (int i = 0; i < times.length; i++) {
            due("fit(" + times[i] + ")", x.fit(times[i]), want[i]);
            due("sure(0, 0, " + times[i] + ")", x.sure(0, 0, times[i]), want[i] == 1 ? 0 : -2);
            due("ask(1, " + times[i] + ")", x.ask(1, times[i]), 1);
        }
        due("fit of the least int", x.fit(LEAST), 2);
        due("fit of the greatest int", x.fit(GREATEST), 2);
        due("fit(-1)", x.fit(-1), 2);
        x.heard(0, 0, -1, true);
        due("fit of the greatest int", x.fit(GREATEST), 1);
        due("fit beyond the time", x.fit(100001), 1);
    }

    private static void rows() {
        by("a row is understood, if each of its pairs does");
        MeadowSigns x = withSigns(3);
        x.heard(0, 1, 2, true);
        due("sure(0, 1, 0)", x.sure(0, 1, 0), 1);
        due("sure(1, 2, 0)", x.sure(1, 2, 0), 1);
        due("sure(0, 2, 0): they are not beside one another", x.sure(0, 2, 0), -2);
        due("fit(0)", x.fit(0), 128);
        MeadowSigns y = withSigns(3);
        y.heard(0, 1, 2, false);
        due("sure(0, 1, 0): one of the two makes no sense", y.sure(0, 1, 0), -2);
        due("sure(1, 2, 0)", y.sure(1, 2, 0), -2);
        due("fit(0)", y.fit(0), 512 / 4 * 3);
        y.heard(1, 2, -1, true);
        due("sure(0, 1, 0)", y.sure(0, 1, 0), 0);
        due("fit(0)", y.fit(0), 128);
        MeadowSigns z = withSigns(3);
        z.heard(0, 0, 0, false);
        due("sure(0, 0, 0): one pair twice", z.sure(0, 0, 0), 0);
        due("fit(0)", z.fit(0), 256);
        MeadowSigns both = withSigns(2);
        both.heard(0, 1, 0, false);
        both.heard(1, 0, 1, false);
        due("fit(0): the same two pairs", both.fit(0), 12);
        due("sure(0, 1, 0)", both.sure(0, 1, 0), -2);
        both.untell(0);
        due("fit(0): one is left", both.fit(0), 12);
        both.untell(1);
        due("fit(0): none is left", both.fit(0), 16);
        both.heard(0, 0, 1, false);
        due("fit(0): another one", both.fit(0), 12);
        due("ask(0, 0)", both.ask(0, 0), 10);
        both.heard(1, 1, 0, false);
        due("fit(0): two of two pairs each", both.fit(0), 9);
        both.untell(2);
        due("fit(0): the latter alone", both.fit(0), 12);
        both.untell(3);
        due("fit(0): none", both.fit(0), 16);
    }

    private static void grammars() {
        by("A GRAMMAR is a set of pairs (of the first four SIGNS, as many as there are, in their order) that make sense");
        int[] want = {1, 2, 16, 512, 65536, 65536, 65536, 65536, 65536};
        for (int n = 0; n <= 8; n++) {
            due("fit(0) of " + n + " signs", withSigns(n).fit(0), want[n]);
        }
        MeadowSigns x = withSigns(2);
        x.heard(0, 1, -1, true);
        due("sure(1, 0, 0): another pair", x.sure(1, 0, 0), -2);
        by("FIT: GRAMMARS by which all that counts is so.");
        x.heard(0, 1, -1, false);
        due("fit(0) of what can't be", x.fit(0), 0);
        x.untell(0);
        due("fit(0)", x.fit(0), 8);
        x.untell(1);
        due("fit(0)", x.fit(0), 16);
    }

    private static void sureInAll() {
        by("SURE of a pair: whether it makes sense in all of these.");
        MeadowSigns x = withSigns(4);
        x.heard(0, 1, 2, false);
        x.heard(1, 2, 3, true);
        due("sure(0, 1, 0)", x.sure(0, 1, 0), 0);
        due("sure(1, 2, 0)", x.sure(1, 2, 0), 1);
        due("sure(2, 3, 0)", x.sure(2, 3, 0), 1);
        due("sure(3, 3, 0)", x.sure(3, 3, 0), -2);
        due("fit(0)", x.fit(0), 8192);
    }

    private static void fewestAtTheMost() {
        by("ASK: the pair of which to see whether it does would leave the fewest of these at the most; of like ones the first.");
        MeadowSigns x = withSigns(2);
        due("ask(0, 0): all alike", x.ask(0, 0), 0);
        due("ask(1, 0)", x.ask(1, 0), 8);
        x.heard(0, 0, -1, true);
        due("ask(0, 0): what is known leaves all", x.ask(0, 0), 1);
        due("ask(1, 0)", x.ask(1, 0), 4);
        x.heard(0, 1, -1, false);
        due("ask(0, 0)", x.ask(0, 0), 10);
        due("ask(1, 0)", x.ask(1, 0), 2);
        x.heard(1, 0, -1, true);
        due("ask(0, 0): the last pair", x.ask(0, 0), 11);
        due("ask(1, 0)", x.ask(1, 0), 1);
        x.heard(1, 1, -1, true);
        due("ask(0, 0): all is known, all alike", x.ask(0, 0), 0);
        due("ask(1, 0)", x.ask(1, 0), 1);
        // 0 0 is in a doubtful row: 2 of 3 at the most; 1 1 halves
        MeadowSigns y = withSigns(2);
        y.heard(0, 0, 1, false);
        due("ask(0, 0)", y.ask(0, 0), 10);
        due("ask(1, 0)", y.ask(1, 0), 6);
        MeadowSigns z = withSigns(4);
        due("ask(1, 0) of four", z.ask(1, 0), 32768);
        // the last pair and the first one are known
        z.heard(3, 3, -1, true);
        z.heard(0, 0, 0, true);
        due("ask(0, 0)", z.ask(0, 0), 1);
        due("ask(1, 0)", z.ask(1, 0), 8192);
    }

    private static void heard() {
        by("A row (c NONE: of two) was understood, or not: its number; NONE, doing nothing, if one can't be, or there are 30.");
        MeadowSigns x = withSigns(2);
        int[][] wrong = {{2, 0, -1}, {-1, 0, -1}, {0, 2, -1}, {0, -1, -1}, {0, -1, 0}, {0, 0, 2}, {0, 0, -2}, {LEAST, 0, 0},
            {0, LEAST, 0}, {0, 0, LEAST}, {GREATEST, 0, 0}, {0, GREATEST, 0}, {0, 0, GREATEST}};
        for (int[] row : wrong) {
            due("heard(" + row[0] + ", " + row[1] + ", " + row[2] + ")", x.heard(row[0], row[1], row[2], true), -1);
        }
        due("about(10)", x.about(10), 0);
        due("fit(0)", x.fit(0), 16);
        due("heard(1, 1, -1, true)", x.heard(1, 1, -1, true), 0);
        due("heard(1, 1, -1, true) again", x.heard(1, 1, -1, true), 1);
        due("heard(0, 1, 1, false)", x.heard(0, 1, 1, false), 2);
        due("about(10)", x.about(10), 3);
        due("fit(0)", x.fit(0), 4);
    }

    private static void untell() {
        by("It is UNTOLD: true; false if it is so already, or there is none such.");
        MeadowSigns x = withSigns(2);
        due("untell(0) of none", x.untell(0), false);
        x.heard(0, 0, -1, true);
        due("untell(1)", x.untell(1), false);
        due("untell(-1)", x.untell(-1), false);
        due("untell of the least int", x.untell(LEAST), false);
        due("untell of the greatest int", x.untell(GREATEST), false);
        due("fit(0)", x.fit(0), 8);
        x.later(3);
        due("untell(0)", x.untell(0), true);
        x.later(3);
        due("untell(0) again", x.untell(0), false);
        due("fit(3): it stays untold from 3 on", x.fit(3), 16);
        due("fit(2)", x.fit(2), 8);
        due("heard: its number is not given again", x.heard(0, 0, -1, true), 1);
    }

    private static void later() {
        by("So much later (0 .. 1000): the TIME; NONE, doing nothing, for another number, or if it would be above 100,000.");
        MeadowSigns x = new MeadowSigns();
        due("later(0)", x.later(0), 0);
        due("later(1000)", x.later(1000), 1000);
        due("later(1001)", x.later(1001), -1);
        due("later(-1)", x.later(-1), -1);
        due("later of the least int", x.later(LEAST), -1);
        due("later of the greatest int", x.later(GREATEST), -1);
        due("about(11)", x.about(11), 1000);
        for (int i = 0; i < 98; i++) {
            x.later(1000);
        }
        due("later(1)", x.later(1), 99001);
        due("later(1000)", x.later(1000), -1);
        due("about(11)", x.about(11), 99001);
        due("later(999)", x.later(999), 100000);
        due("later(1)", x.later(1), -1);
        due("later(0)", x.later(0), 100000);
        due("about(11)", x.about(11), 100000);
    }

    private static void fit() {
        by("FIT: how many GRAMMARS (1 without SIGNS).");
        due("fit(0) without signs", new MeadowSigns().fit(0), 1);
        due("fit(-1) without signs", new MeadowSigns().fit(-1), 1);
        due("fit(0) of one sign", withSigns(1).fit(0), 2);
    }

    private static void sure() {
        by("SURE: 1 if it makes sense, 0 if not, -2 if that is open; NONE if there are none, or one can't be.");
        MeadowSigns x = withSigns(3);
        x.heard(0, 1, -1, true);
        x.heard(1, 0, -1, false);
        due("sure(0, 1, 0)", x.sure(0, 1, 0), 1);
        due("sure(1, 0, 0)", x.sure(1, 0, 0), 0);
        due("sure(1, 1, 0)", x.sure(1, 1, 0), -2);
        due("sure(3, 0, 0)", x.sure(3, 0, 0), -1);
        due("sure(0, 3, 0)", x.sure(0, 3, 0), -1);
        due("sure(-1, 0, 0)", x.sure(-1, 0, 0), -1);
        due("sure(0, -1, 0)", x.sure(0, -1, 0), -1);
        due("sure of the least int", x.sure(LEAST, 0, 0), -1);
        due("sure of the greatest int", x.sure(0, GREATEST, 0), -1);
        due("sure(0, 1, -1): nothing counts", x.sure(0, 1, -1), -2);
        x.heard(1, 0, -1, true);
        due("sure(0, 1, 0) of no grammar", x.sure(0, 1, 0), -1);
        MeadowSigns y = withSigns(8);
        due("sure(3, 3, 0)", y.sure(3, 3, 0), -2);
        due("sure(4, 3, 0): a fifth", y.sure(4, 3, 0), -1);
        due("sure(3, 4, 0)", y.sure(3, 4, 0), -1);
        due("sure(0, 0, 0) without signs", new MeadowSigns().sure(0, 0, 0), -1);
    }

    private static void ask() {
        by("ASK what 0: 10 * the first SIGN of the pair and the second one, 1: how many are left at the most; "
            + "NONE if there are none, no SIGNS, or for another what.");
        MeadowSigns x = withSigns(4);
        for (int a = 0; a < 4; a++) {
            for (int b = 0; b < 4; b++) {
                due("ask(0, 0)", x.ask(0, 0), 10 * a + b);
                due("ask(1, 0)", x.ask(1, 0), 1 << 15 - 4 * a - b);
                x.heard(a, b, -1, (a + b) % 2 == 0);
            }
        }
        due("ask(2, 0)", x.ask(2, 0), -1);
        due("ask(-1, 0)", x.ask(-1, 0), -1);
        due("ask of the least int", x.ask(LEAST, 0), -1);
        due("ask of the greatest int", x.ask(GREATEST, 0), -1);
        x.heard(0, 1, -1, true);
        due("ask(0, 0) of no grammar", x.ask(0, 0), -1);
        due("ask(1, 0) of no grammar", x.ask(1, 0), -1);
        due("ask(0, -1): nothing counts", x.ask(0, -1), 0);
        due("ask(0, 0) without signs", new MeadowSigns().ask(0, 0), -1);
        due("ask(1, 0) without signs", new MeadowSigns().ask(1, 0), -1);
        due("ask(1, 0) of one sign", withSigns(1).ask(1, 0), 1);
    }

    private static final String YEARS = "size 6;thing t at 10;thing u at 5;sign a m does t 2;sign b mm does u - 1;draw 3;"
        + "grow age>3;";

    private static void image() {
        by("are kept in a BOX 0 .. 2: the year; NONE if there is none such.");
        MeadowSigns x = Calls.told(YEARS);
        due("image(0)", x.image(0), 0);
        x.year();
        due("image(1)", x.image(1), 1);
        x.year();
        due("image(2)", x.image(2), 2);
        due("image(3)", x.image(3), -1);
        due("image(-1)", x.image(-1), -1);
        due("image(32)", x.image(32), -1);
        due("image of the least int", x.image(LEAST), -1);
        due("image of the greatest int", x.image(GREATEST), -1);
        due("about(8): it is no act", x.about(8), 2);
        x.undo();
        x.image(2);
        due("about(9)", x.about(9), 1);
        due("back(32), though box 0 is filled", x.back(32), -1);
        due("back(-32)", x.back(-32), -1);
        due("back(3)", x.back(3), -1);
        due("back(0)", x.back(0), 0);
        due("back(1)", x.back(1), 1);
        due("back(2): the box was filled again", x.back(2), 1);
    }

    private static void back() {
        by("All is as it was kept (no ACTS are kept then): the year; NONE, doing nothing, if nothing was.");
        MeadowSigns x = Calls.told(YEARS);
        x.mow(1);
        x.year();
        x.mow(4);
        x.mow(5);
        x.undo();
        for (int box = -1; box <= 3; box++) {
            due("back(" + box + ")", x.back(box), -1);
        }
        due("back(32)", x.back(32), -1);
        due("back of the least int", x.back(LEAST), -1);
        due("back of the greatest int", x.back(GREATEST), -1);
        due("about(8)", x.about(8), 3);
        due("about(9)", x.about(9), 1);
        due("image(1)", x.image(1), 1);
        int[] kept = {x.about(3), x.about(6), x.about(7), x.thing(0), x.thing(1), x.plot(1, 1), x.plot(4, 1)};
        x.year();
        x.year();
        x.sow(4);
        x.mow(1);
        x.undo();
        due("back(0)", x.back(0), -1);
        due("back(2)", x.back(2), -1);
        due("about(9)", x.about(9), 1);
        for (int again = 0; again < 2; again++) {
            due("back(1)", x.back(1), 1);
            int[] now = {x.about(3), x.about(6), x.about(7), x.thing(0), x.thing(1), x.plot(1, 1), x.plot(4, 1)};
            for (int i = 0; i < kept.length; i++) {
                due("what was kept, " + i, now[i], kept[i]);
            }
            due("about(8)", x.about(8), 0);
            due("about(9)", x.about(9), 0);
            due("undo()", x.undo(), false);
            due("redo()", x.redo(), false);
            x.year();
            due("undo() behind another act", x.undo(), true);
            due("undo()", x.undo(), false);
            x.redo();
        }
        // another box, and more acts than are kept
        MeadowSigns y = Calls.told(YEARS);
        for (int i = 0; i < 50; i++) {
            y.mow(i % 6);
        }
        y.year();
        due("image(2)", y.image(2), 1);
        for (int i = 0; i < 5; i++) {
            y.year();
        }
        due("back(2)", y.back(2), 1);
        due("about(6)", y.about(6), 1);
        due("thing(0)", y.thing(0), 22);
        due("about(3)", y.about(3), 63);
        y.sow(3);
        y.year();
        due("undo()", y.undo(), true);
        due("undo()", y.undo(), true);
        due("about(3): as it was kept", y.about(3), 63);
        due("about(6)", y.about(6), 1);
        due("thing(0)", y.thing(0), 22);
        due("undo()", y.undo(), false);
        // what is heard, and the time, are not kept
        x.heard(0, 0, -1, true);
        x.later(7);
        x.back(1);
        due("about(10)", x.about(10), 1);
        due("about(11)", x.about(11), 7);
    }

    private static void about() {
        by("14: numbers that lie there. NONE for another what.");
        MeadowSigns x = Calls.told("size 20;thing a at 1;thing b at 1;thing c at 1;thing d at 1;sign a m does a 1;"
            + "sign b mm does b 1;never a b;barn 19;barn 0;weigh (1);grow 0*age;draw 71;");
        x.feed(0, 0, 0, 0, 0);
        x.mow(0);
        x.mow(18);
        x.mow(1);
        x.undo();
        x.heard(0, 0, -1, true);
        x.untell(0);
        x.later(9);
        x.taken();
        // 0, 18 and 19: a a a
        int[] want = {2, 4, 20, 1 + (1 << 18), 1 + (1 << 19), 1, 0, 71, 2, 1, 1, 9, 20, 4, 3};
        for (int i = 0; i < want.length; i++) {
            due("about(" + i + ")", x.about(i), want[i]);
        }
        due("about(15)", x.about(15), -1);
        due("about(-1)", x.about(-1), -1);
        due("about of the least int", x.about(LEAST), -1);
        due("about of the greatest int", x.about(GREATEST), -1);
    }
}
