/** Promises 15 to 21: games in mind, plans against plans, fairness, who is missed, the least hour. */
public final class MindTest {
    /** 0 wins at second 11, alone. */
    private static final String ALONE = "p000e3;";
    /** By seeds either side wins, or nobody, at several seconds. */
    private static final String VARIED = "e1;t26;p001a2;p102g1;p063b6;p164j4;p064a5;p152g6;p000f6;";

    public static void main(String[] args) {
        games();
        gamesBySeeds();
        against();
        tables();
        tablesRefuse();
        longestTables();
        bestPlans();
        fairness();
        smaller();
        hours();
        nothingIsChanged();
        Due.end();
    }

    private static void games() {
        TwoFlags x = new TwoFlags();
        Due.due("15 nobody", x.game(1, 0), -3);
        Due.due("15 nobody, no what", x.game(1, 4), -1);
        x = Due.wood(ALONE);
        x.go(3);
        int[] want = {0, 11, 0, 0};
        for (int what = 0; what < 4; what++) {
            Due.due("15 from home on, " + what, x.game(7, what), want[what]);
        }
        Due.due("15 no what", x.game(7, 4), -1);
        Due.due("15 no what", x.game(7, -1), -1);
        x = Due.wood("p010f0;h37;");
        int[] none = {2, 37, -4, 0};
        for (int what = 0; what < 4; what++) {
            Due.due("15 nobody wins, " + what, x.game(7, what), none[what]);
        }
        x = Due.wood("p010f0;h600;");
        Due.due("15 the longest hour", x.game(7, 1), 600);
        x = Due.wood("p000f3;p110g3;");
        Due.due("15 touched", x.game(1, 3), 1);
    }

    /** A game in mind by a seed is the game that anew, seed and go play. */
    private static void gamesBySeeds() {
        String text = VARIED + "c0161;";
        for (int seed = -3; seed < 12; seed++) {
            TwoFlags x = Due.wood(text);
            TwoFlags y = Due.wood(text);
            y.seed(seed);
            while (y.state(2) == 0) {
                y.go(100);
            }
            Due.due("15 won by " + seed, x.game(seed, 0), y.state(1));
            Due.due("15 when by " + seed, x.game(seed, 1), y.state(0));
            Due.due("15 first by " + seed, x.game(seed, 2), y.state(5));
            Due.due("15 touched by " + seed, x.game(seed, 3), y.state(4));
        }
    }

    private static void against() {
        TwoFlags x = new TwoFlags();
        Due.due("16 nobody", x.against(1, 1), -1000000003);
        Due.due("16 nobody, 0 games", x.against(0, 1), -1000000001);
        x = Due.wood(ALONE);
        Due.due("16 0 games", x.against(0, 1), -1000000001);
        Due.due("16 11 games", x.against(11, 1), -1000000001);
        Due.due("16 all won by side 0", x.against(10, 1), 10);
        Due.due("16 one", x.against(1, 1), 1);
        x = Due.wood("p100h3;");
        Due.due("16 all won by side 1", x.against(4, 1), -4);
        x = Due.wood("p010f3;");
        Due.due("16 won by nobody", x.against(4, 1), 0);
        x = Due.wood(VARIED);
        for (int seed : new int[] {5, Integer.MAX_VALUE - 2}) {
            int sum = 0;
            for (int i = 0; i < 6; i++) {
                int won = x.game(seed + i, 0);
                sum += won == 0 ? 1 : won == 1 ? -1 : 0;
            }
            Due.due("16 seeds from " + seed, x.against(6, seed), sum);
        }
    }

    private static void tables() {
        // guards alone: nobody wins; a runner of the one or the other side wins
        TwoFlags x = Due.wood("p010a1;p110l1;p010a5;p110l5;");
        x.row(0, 0, 0);
        Due.due("17 as they are", x.table(0, 0, 0, 1), 2);
        Due.fill(x, 1, 0, 4);
        Due.due("17 side 0's first one runs", x.table(1, 0, 0, 1), 0);
        Due.due("17 side 1's first one runs", x.table(0, 1, 0, 1), 1);
        Due.fill(x, 1, 0, 1, 4);
        Due.due("17 side 0's second one runs", x.table(1, 0, 0, 1), 0);
        Due.due("17 side 1's second one runs", x.table(0, 1, 0, 1), 1);
        Due.fill(x, 1, 0, 1, 1, 4);
        Due.due("17 a third one isn't there", x.table(1, 1, 0, 1), 2);
        // the figure told is theirs, the others keep theirs: guards with figure 9 catch who runs along row 3
        x = Due.wood("e1;p040e3;p110h5;");
        x.row(0, 0, 0);
        Due.fill(x, 1, 0, 1);
        Due.due("17 figure 0", x.table(0, 1, 0, 1), 0);
        Due.due("17 figure 9", x.table(0, 1, 9, 1), 2);
        Due.due("17 the rows stay", x.element(1, 0), 1);
        // a seed
        x = Due.wood(VARIED);
        x.row(0, 0, 0);
        int kinds = 0;
        for (int seed = 0; seed < 20; seed++) {
            Due.due("17 by " + seed, x.table(0, 0, 0, seed), x.game(seed, 0));
            kinds |= 1 << x.game(seed, 0);
        }
        Due.due("17 not all the same", Integer.bitCount(kinds) > 1 ? 1 : 0, 1);
    }

    private static void tablesRefuse() {
        TwoFlags x = new TwoFlags();
        Due.due("17 no shelf", x.table(8, 0, 0, 1), -1);
        Due.due("17 no shelf", x.table(0, -1, 0, 1), -1);
        Due.due("17 no figure", x.table(0, 0, 10, 1), -1);
        Due.due("17 no figure", x.table(0, 0, -1, 1), -1);
        Due.due("17 nothing", x.table(0, 0, 0, 1), -11);
        x.keep(0, 1, 0, 0);
        Due.due("17 a role and nothing", x.table(0, 1, 0, 1), -11);
        Due.due("17 nothing and a role", x.table(1, 0, 0, 1), -11);
        x.row(1, 0, 1);
        Due.due("17 a role", x.table(0, 1, 0, 1), -12);
        x.row(0, 1, 1);
        x.put(1, 0, 8);
        Due.due("17 shorts, and no kind", x.table(1, 0, 0, 1), -12);
        x.row(0, 2, 1);
        Due.due("17 ints", x.table(0, 1, 0, 1), -12);
        x.row(0, 0, 5);
        Due.due("17 8 is no kind", x.table(0, 1, 0, 1), -13);
        x.put(1, 0, -1);
        Due.due("17 -1 is no kind", x.table(1, 0, 0, 1), -13);
        x.put(1, 0, 7);
        Due.due("17 nobody", x.table(0, 1, 0, 1), -3);
        Due.read(x, ALONE);
        Due.due("17 all well", x.table(0, 1, 0, 1), 0);
        x.put(0, 4, 8);
        Due.due("17 no kind, wherever it stands", x.table(0, 1, 0, 1), -13);
    }

    /** As many players and kinds as there can be. */
    private static void longestTables() {
        TwoFlags x = Due.wood("p010f3;p010f3;p010f3;p010f3;p010f3;p110g3;p110g3;p110g3;p110g3;p110g3;");
        x.row(0, 0, 100);
        x.row(1, 0, 100);
        for (int i = 0; i < 100; i++) {
            x.put(1, i, 1);
        }
        Due.due("17 all guard", x.table(1, 1, 0, 1), 2);
        Due.due("17 side 0 runs into guards", x.table(0, 1, 0, 1), 2);
        Due.due("17 side 1 runs into guards", x.table(1, 0, 0, 1), 2);
        x.put(1, 99, 8);
        Due.due("17 the last is no kind", x.table(0, 1, 0, 1), -13);
    }

    private static void bestPlans() {
        TwoFlags x = Due.wood("p010a1;p110l1;");
        Due.due("18 no player", x.bestPlan(2, 0, 1, 1, 0), -1000000001);
        Due.due("18 no player", x.bestPlan(-1, 0, 1, 1, 0), -1000000001);
        Due.due("18 no figure", x.bestPlan(0, 10, 1, 1, 0), -1000000001);
        Due.due("18 no figure", x.bestPlan(0, -1, 1, 1, 0), -1000000001);
        Due.due("18 0 games", x.bestPlan(0, 0, 0, 1, 0), -1000000001);
        Due.due("18 6 games", x.bestPlan(0, 0, 6, 1, 0), -1000000001);
        Due.due("18 no what", x.bestPlan(0, 0, 1, 1, 2), -1000000001);
        Due.due("18 no what", x.bestPlan(0, 0, 1, 1, -1), -1000000001);
        Due.due("18 one game", x.bestPlan(0, 0, 1, 1, 1), 1);
        Due.due("18 the least of those that win", x.bestPlan(0, 0, 3, 1, 0), 0);
        Due.due("18 all three won", x.bestPlan(0, 0, 3, 1, 1), 3);
        Due.due("18 for side 1", x.bestPlan(1, 0, 5, 1, 1), 5);
        Due.due("18 for side 1", x.bestPlan(1, 0, 5, 1, 0), 0);
        // who guards the way in row 3 keeps the other from it; nothing better is to be had
        x = Due.wood("p000e3;p100h0;g3i0;g3h1;");
        Due.due("18 shut in, it can but lose", x.bestPlan(1, 0, 2, 1, 1), -2);
        Due.due("18 the least of all", x.bestPlan(1, 0, 2, 1, 0), 0);
        x = Due.wood("p000e3;p100h3;");
        int best = x.bestPlan(1, 3, 2, 1, 0);
        x.keep(0, 1, best, 3);
        int lead = x.bestPlan(1, 3, 2, 1, 1);
        for (int kind = 0; kind < 8; kind++) {
            x.keep(1, 1, kind, 3);
            x.role(1, 1);
            int own = -x.against(2, 1);
            Due.due("18 kind " + kind, kind < best ? own < lead ? 1 : 0 : own <= lead ? 1 : 0, 1);
        }
        x.role(1, 0);
        Due.due("18 by it", -x.against(2, 1), lead);
    }

    private static void fairness() {
        TwoFlags x = new TwoFlags();
        Due.due("19 nobody", x.fair(1, 1), -3);
        Due.due("19 nobody, 11 games", x.fair(11, 1), -1);
        x = Due.wood(ALONE);
        Due.due("19 0 games", x.fair(0, 1), -1);
        Due.due("19 11 games", x.fair(11, 1), -1);
        Due.due("19 one is more than 0", x.fair(1, 1), 0);
        Due.due("19 all", x.fair(10, 1), 0);
        x = Due.wood("p100h3;");
        Due.due("19 the other way", x.fair(4, 1), 0);
        x = Due.wood("p010f3;");
        Due.due("19 nobody wins", x.fair(4, 1), 1);
        // about as many won as lost, by seeds
        x = Due.wood(VARIED);
        int fair = 0;
        int unfair = 0;
        for (int n = 1; n <= 10; n++) {
            for (int seed = 0; seed < 20; seed++) {
                int sum = x.against(n, seed);
                boolean is = Math.abs(sum) <= n / 4;
                Due.due("19 by " + n + ", " + seed, x.fair(n, seed), is ? 1 : 0);
                fair |= is && n == 4 && sum != 0 ? sum > 0 ? 1 : 2 : 0;
                unfair |= !is && n == 4 ? sum > 0 ? 1 : 2 : 0;
            }
        }
        Due.due("19 fair by one more, either way", fair, 3);
        Due.due("19 unfair, either way", unfair, 3);
    }

    private static void smaller() {
        TwoFlags x = Due.wood(ALONE);
        Due.due("20 no player", x.smaller(1, 1, 1), -1000000001);
        Due.due("20 no player", x.smaller(-1, 1, 1), -1000000001);
        Due.due("20 0 games", x.smaller(0, 0, 1), -1000000001);
        Due.due("20 11 games", x.smaller(0, 11, 1), -1000000001);
        Due.due("20 without the only one nobody wins", x.smaller(0, 10, 1), -10);
        x = Due.wood("p000e3;p113h3;");
        Due.due("20 the guard keeps side 0 from it", x.against(3, 1), 0);
        Due.due("20 without the guard", x.smaller(1, 3, 1), 3);
        Due.due("20 one game", x.smaller(1, 1, 1), 1);
        Due.due("20 it is there still", x.count(0), 2);
        // as if it weren't there: the others alone play as in a wood of their own
        String[] texts = VARIED.split("(?<=;)");
        x = Due.wood(VARIED);
        for (int out = 0; out < 7; out++) {
            StringBuilder text = new StringBuilder();
            for (int i = 0; i < texts.length; i++) {
                text.append(i == out + 2 ? "" : texts[i]);
            }
            TwoFlags y = Due.wood(text.toString());
            Due.due("20 without " + out, x.smaller(out, 8, 3), y.against(8, 3) - x.against(8, 3));
        }
    }

    private static void hours() {
        TwoFlags x = new TwoFlags();
        Due.due("21 nobody", x.hour(1, 1), -3);
        Due.due("21 nobody, 0 games", x.hour(0, 1), -1);
        x = Due.wood(ALONE);
        Due.due("21 0 games", x.hour(0, 1), -1);
        Due.due("21 11 games", x.hour(11, 1), -1);
        Due.due("21 won at 11", x.hour(3, 1), 20);
        Due.due("21 the rule stays", x.rule(5), 200);
        Due.read(x, "h10;");
        Due.due("21 whatever the hour is", x.hour(3, 1), 20);
        x = Due.wood("p000f3;");
        Due.due("21 won at 10", x.hour(10, 1), 10);
        x = Due.wood("p010f3;");
        Due.due("21 never", x.hour(10, 1), -4);
        // more than half: by hours tried one behind the other
        x = Due.wood(VARIED);
        for (int n = 1; n <= 4; n++) {
            int least = -4;
            for (int hour = 10; hour <= 60 && least == -4; hour += 10) {
                int won = 0;
                for (int i = 0; i < n; i++) {
                    won += x.game(9 + i, 0) != 2 && x.game(9 + i, 1) <= hour ? 1 : 0;
                }
                least = 2 * won > n ? hour : -4;
            }
            int got = x.hour(n, 9);
            Due.due("21 by " + n, got <= 60 ? got : -4, least);
        }
    }

    private static void nothingIsChanged() {
        TwoFlags x = Due.wood("t30;e1;p000e3;p110h3;p040e1;p130h4;");
        x.go(4);
        x.row(0, 0, 2);
        int[] was = new int[36];
        for (int i = 0; i < 36; i++) {
            was[i] = x.player(i / 9, i % 9);
        }
        x.game(3, 0);
        x.against(3, 3);
        x.table(0, 0, 5, 3);
        x.bestPlan(1, 5, 2, 3, 0);
        x.fair(2, 3);
        x.smaller(0, 2, 3);
        x.hour(2, 3);
        x.judge(0, 0);
        for (int i = 0; i < 36; i++) {
            Due.due("15 to 21 in mind alone", x.player(i / 9, i % 9), was[i]);
        }
        Due.due("15 to 21 the second", x.state(0), 4);
        Due.due("15 to 21 the hour", x.rule(5), 200);
    }
}
