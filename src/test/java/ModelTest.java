import java.util.Random;

/** Random runs of calls, answered by the class and by the plain model. */
public final class ModelTest {
    private static final int RUNS = 700;
    private static final int CALLS = 440;

    private ModelTest() {
    }

    public static void main(String[] args) {
        int left = 0;
        for (int seed = 1; seed <= RUNS && Calls.wrongSoFar() < 20; seed++) {
            Random r = new Random(seed);
            MeadowSigns x = new MeadowSigns();
            int time = 0;
            int calls = 0;
            boolean cut = false;
            for (int meadows = 0; meadows < 3 && !cut; meadows++) {
                Model m = Model.random(r, time);
                String text = m.text(r);
                if (text.length() > 1580) {
                    continue;
                }
                Calls.feed(x, text);
                Calls.due("seed " + seed + " meadow() of " + text, x.meadow(), m.signs.size());
                Calls.due("fault(0)", x.fault(0), 0);
                Calls.due("fault(1)", x.fault(1), -1);
                calls += 2 + text.length() / 20;
                for (int i = 0; i < CALLS / 3 && !cut; i++) {
                    String call = one(x, m, r);
                    cut = m.overflow;
                    if (!cut) {
                        int wrong = Calls.wrongSoFar();
                        Calls.due("about(14)", x.about(14), m.lies.size());
                        if (wrong != Calls.wrongSoFar()) {
                            System.out.println("  seed " + seed + " behind " + call);
                        }
                    }
                }
                time = m.time;
            }
            left += cut ? 1 : 0;
        }
        System.out.println("runs left early, as there were too many readings: " + left);
        Calls.finish();
    }

    private static int near(Random r, int count) {
        return r.nextInt(12) == 0 ? r.nextInt(3) - 2 + (r.nextBoolean() ? count + 2 : 0) : r.nextInt(Math.max(1, count));
    }

    private static int set(Random r, Model m) {
        int open = (1 << m.size) - 1 & ~m.about(3) & ~m.about(4);
        int set = r.nextInt(1 << m.size) & r.nextInt(1 << m.size);
        return r.nextInt(10) == 0 ? r.nextInt() : r.nextInt(10) == 0 ? set : set & open;
    }

    private static void due(Model m, String call, long got, long want) {
        if (!m.overflow) {
            Calls.due(call, got, want);
        }
    }

    private static String one(MeadowSigns x, Model m, Random r) {
        int pick = r.nextInt(60);
        int thing = near(r, m.things.size());
        int sign = near(r, m.signs.size());
        int cell = near(r, m.size);
        int k = r.nextInt(8) == 0 ? r.nextInt() : m.time + r.nextInt(5) - 3;
        String call = "call " + pick;
        if (pick < 10) {
            call = "mow(" + cell + ")";
            due(m, call, x.mow(cell), m.mow(cell));
        } else if (pick < 14) {
            call = "sow(" + cell + ")";
            due(m, call, x.sow(cell), m.sow(cell));
        } else if (pick < 17) {
            call = "year()";
            due(m, call, x.year(), m.year());
        } else if (pick < 19) {
            call = "undo()";
            Calls.due(call, x.undo(), m.undo());
        } else if (pick < 21) {
            call = "redo()";
            Calls.due(call, x.redo(), m.redo());
        } else if (pick < 35) {
            call = reading(x, m, r, thing, sign, cell);
        } else if (pick < 48) {
            call = plan(x, m, r, thing);
        } else if (pick < 56) {
            call = hearing(x, m, r, k);
        } else if (pick == 56) {
            call = "image";
            int box = near(r, 3);
            due(m, call, x.image(box), m.image(box));
        } else if (pick == 57) {
            call = "back";
            int box = near(r, 3);
            due(m, call, x.back(box), m.back(box));
        } else {
            int what = near(r, 15);
            call = "about(" + what + ")";
            due(m, call, x.about(what), m.about(what));
        }
        return call;
    }

    private static String reading(MeadowSigns x, Model m, Random r, int thing, int sign, int cell) {
        int what = near(r, 5);
        int n = r.nextInt(8) == 0 ? r.nextInt(64) - 2 : r.nextInt(6);
        switch (r.nextInt(11)) {
            case 0:
                due(m, "thing(" + thing + ")", x.thing(thing), m.thing(thing));
                return "thing";
            case 1:
                due(m, "glyph(" + sign + ", " + what + ")", x.glyph(sign, what), m.glyph(sign, what));
                return "glyph";
            case 2:
                due(m, "plot(" + cell + ", " + what + ")", x.plot(cell, what), m.plot(cell, what));
                return "plot";
            case 3:
            case 4:
                due(m, "readings()", x.readings(), m.readings());
                return "readings";
            case 5:
                due(m, "taken()", x.taken(), m.taken());
                lying(x, m);
                return "taken";
            case 6:
                due(m, "weight()", x.weight(), m.weight());
                return "weight";
            case 7:
                due(m, "does(" + thing + ")", x.does(thing), m.does(thing));
                return "does";
            case 8:
                due(m, "will(" + thing + ", " + n + ")", x.will(thing, n), m.will(thing, n));
                return "will";
            case 9:
                due(m, "field(" + n + ")", x.field(n), m.field(n));
                return "field";
            default:
                due(m, "harm()", x.harm(), m.harm());
                return "harm";
        }
    }

    private static void lying(MeadowSigns x, Model m) {
        for (int i = -1; i <= m.lies.size() && !m.overflow; i++) {
            Calls.due("lies(" + i + ")", x.lies(i), m.lies(i));
        }
    }

    private static String plan(MeadowSigns x, Model m, Random r, int thing) {
        String call;
        switch (r.nextInt(8)) {
            case 0: {
                int v = r.nextInt(20) == 0 ? 100 : r.nextInt(25) - 12;
                call = "turn(" + thing + ", " + v + ")";
                due(m, call, x.turn(thing, v), m.turn(thing, v));
                break;
            }
            case 1:
                call = "plain()";
                due(m, call, x.plain(), m.plain());
                break;
            case 2: {
                int set = set(r, m);
                if (Integer.bitCount(set) > 5 && Integer.bitCount(set) < 9) {
                    set &= 0x55555;
                }
                call = "orders(" + set + ")";
                due(m, call, x.orders(set), m.orders(set));
                break;
            }
            case 3:
            case 4: {
                int a = near(r, m.signs.size());
                int b = r.nextInt(3) == 0 ? -1 : near(r, m.signs.size());
                int c = r.nextInt(2) == 0 ? -1 : near(r, m.signs.size());
                call = "write(" + a + ", " + b + ", " + c + ")";
                due(m, call, x.write(a, b, c), m.write(a, b, c));
                break;
            }
            case 5:
                call = "watch()";
                due(m, call, x.watch(), m.watch());
                break;
            case 6: {
                int part = near(r, 2);
                call = "cows(" + thing + ", " + part + ")";
                due(m, call, x.cows(thing, part), m.cows(thing, part));
                break;
            }
            default: {
                int mine = set(r, m);
                int his = r.nextInt(10) == 0 ? set(r, m) : set(r, m) & ~mine;
                int what = near(r, 3);
                call = "duel(" + thing + ", " + mine + ", " + his + ", " + what + ")";
                due(m, call, x.duel(thing, mine, his, what), m.duel(thing, mine, his, what));
                break;
            }
        }
        lying(x, m);
        return call;
    }

    private static String hearing(MeadowSigns x, Model m, Random r, int k) {
        int a = near(r, Math.min(4, m.signs.size()));
        int b = near(r, Math.min(4, m.signs.size()));
        switch (r.nextInt(8)) {
            case 0:
            case 1:
            case 2: {
                int c = r.nextBoolean() ? -1 : near(r, Math.min(4, m.signs.size()));
                boolean is = r.nextInt(3) == 0;
                Calls.due("heard", x.heard(a, b, c, is), m.heard(a, b, c, is));
                return "heard";
            }
            case 3: {
                int i = near(r, m.heard.size());
                Calls.due("untell(" + i + ")", x.untell(i), m.untell(i));
                return "untell";
            }
            case 4: {
                int by = r.nextInt(12) == 0 ? r.nextInt(1200) - 100 : r.nextInt(3);
                Calls.due("later(" + by + ")", x.later(by), m.later(by));
                return "later";
            }
            case 5:
                Calls.due("fit(" + k + ")", x.fit(k), m.fit(k));
                return "fit";
            case 6:
                Calls.due("sure(" + a + ", " + b + ", " + k + ")", x.sure(a, b, k), m.sure(a, b, k));
                return "sure";
            default: {
                int what = near(r, 2);
                Calls.due("ask(" + what + ", " + k + ")", x.ask(what, k), m.ask(what, k));
                return "ask";
            }
        }
    }
}
