/** The edges that promises 15 to 21 and their part 4 of the document name: games in mind. */
public final class EdgesOfMindTest {
    private static final int FAR = -1000000000;
    /** 0 wins at second 11. */
    private static final String ALONE = "p000e3;";
    /** By seeds either side wins, or nobody, at several seconds. */
    private static final String VARIED = "e1;t26;p001a2;p102g1;p063b6;p164j4;p064a5;p152g6;p000f6;";
    /** By seeds it is won late: by 1580 at second 590, by 958 at 591, by 770 at 600. */
    private static final String LATE = "h600;l1;t98;p000e3;p110h3;p060e6;p060a6;";
    /** Seeds and numbers at the ends of an int. */
    private static final int[] ENDS = {Integer.MIN_VALUE, Integer.MIN_VALUE + 1, Integer.MAX_VALUE - 1, Integer.MAX_VALUE};

    public static void main(String[] args) {
        nobodyIsThere();
        gamesFromHomeOn();
        gamesByRolesAndRulesAsTheyAre();
        gamesAtTheHour();
        gamesAtTheEndsOfSeeds();
        againstByHowMany();
        seedsWrapAround();
        tableRows();
        tableFigures();
        tableRefusesInOrder();
        bestPlanIsTheLeastOfSeveral();
        bestPlanForSide1();
        bestPlanByTheFigure();
        bestPlanRefuses();
        fairByAQuarter();
        smallerByOne();
        hoursByTens();
        hoursByMoreThanHalf();
        nothingIsChanged();
        Due.end();
    }

    /** "-3: no PLAYERS", behind -1; calls that name a PLAYER have none to name. */
    private static void nobodyIsThere() {
        TwoFlags x = new TwoFlags();
        Due.due("game", x.game(1, 0), -3);
        Due.due("game, no what", x.game(1, 4), -1);
        Due.due("against", x.against(1, 1), FAR - 3);
        Due.due("against, no game", x.against(0, 1), FAR - 1);
        Due.due("against, 11 games", x.against(11, 1), FAR - 1);
        Due.due("fair", x.fair(10, 1), -3);
        Due.due("fair, no game", x.fair(0, 1), -1);
        Due.due("fair, 11 games", x.fair(11, 1), -1);
        Due.due("hour", x.hour(10, 1), -3);
        Due.due("hour, no game", x.hour(0, 1), -1);
        Due.due("hour, 11 games", x.hour(11, 1), -1);
        Due.due("best plan", x.bestPlan(0, 0, 1, 1, 0), FAR - 1);
        Due.due("smaller", x.smaller(0, 1, 1), FAR - 1);
        x.row(0, 0, 0);
        Due.due("table", x.table(0, 0, 0, 1), -3);
        // a wood without players is no players either
        Due.read(x, "g1c2;c0110;");
        Due.due("game in an empty wood", x.game(1, 0), -3);
    }

    /** "all at their HOME CELLS, FLAGS at their first places, SECOND 0". */
    private static void gamesFromHomeOn() {
        String text = "p000f3;p110h5;p040a0;p160h1;";
        TwoFlags fresh = Due.wood(text);
        TwoFlags x = Due.wood(text);
        x.go(6);
        x.keep(0, 1, 1, 9);
        x.keep(1, 1, 1, 0);
        x.role(1, 0);
        x.go(2);
        Due.due("a flag has fallen", x.flag(1, 0) == 46 ? 1 : 0, 0);
        Due.due("one is held", x.state(3) > 0 ? 1 : 0, 1);
        x.role(1, 1);
        for (int what = 0; what < 4; what++) {
            Due.due("from home on, " + what, x.game(5, what), fresh.game(5, what));
        }
        // ended or not, games go from the beginning
        x = Due.wood(ALONE);
        x.go(100);
        Due.due("ended", x.state(2), 1);
        int[] want = {0, 11, 0, 0};
        for (int what = 0; what < 4; what++) {
            Due.due("behind the end, " + what, x.game(5, what), want[what]);
        }
        // in brook, too
        x = Due.wood("g2f3;p000e3;");
        Due.due("with a brook on the way", x.game(1, 1), 12);
        x.go(1);
        Due.due("a second left in brook", x.player(0, 7), 1);
        Due.due("begun in brook", x.game(1, 1), 12);
        // "-4 nobody", "how many were touched (HELD by it)"
        x = Due.wood("h10;p000f3;p110g3;");
        Due.due("nobody has won", x.game(1, 0), 2);
        Due.due("at the hour", x.game(1, 1), 10);
        Due.due("nobody had a flag", x.game(1, 2), -4);
        Due.due("one was touched", x.game(1, 3), 1);
        int[] none = {-1, 4, ENDS[0], ENDS[3]};
        for (int what : none) {
            Due.due("no what " + what, x.game(1, what), -1);
        }
    }

    /** Roles, rules, ground and plans are in a game as they are when it is asked. */
    private static void gamesByRolesAndRulesAsTheyAre() {
        TwoFlags x = Due.wood("p000e3;");
        x.keep(0, 1, 1, 0);
        x.role(0, 0);
        Due.due("it guards", x.game(1, 0), 2);
        x.keep(0, 1, 4, 0);
        x.role(0, 0);
        Due.due("against, it runs", x.against(2, 1), 2);
        x.keep(0, 1, 1, 0);
        x.role(0, 0);
        Due.due("fair, it guards", x.fair(1, 1), 1);
        x.keep(0, 1, 4, 0);
        x.role(0, 0);
        Due.due("hour, it runs", x.hour(1, 1), 20);
        x.keep(0, 1, 1, 0);
        x.role(0, 0);
        Due.due("smaller, it guards", x.smaller(0, 1, 1), 0);
        x.keep(0, 1, 4, 0);
        x.role(0, 0);
        x.row(1, 0, 0);
        Due.due("table, it runs", x.table(1, 1, 0, 1), 0);
        // restored, as it was
        x.image();
        x.keep(0, 1, 1, 0);
        x.role(0, 0);
        x.restore();
        Due.due("restored, it runs", x.game(1, 0), 0);
        // what a refused text would have made is in no game
        Due.due("a text with a fault", Due.read(x, "p100g3;h10;r4;"), -2011);
        Due.due("nothing of it is in a game", x.game(1, 1), 11);
        Due.due("nor of what one game had", x.against(3, 1), 3);
    }

    /** A game that is won in the very second of the hour is won. */
    private static void gamesAtTheHour() {
        TwoFlags x = Due.wood("h11;" + ALONE);
        Due.due("won at the hour", x.game(1, 0), 0);
        Due.due("at", x.game(1, 1), 11);
        Due.read(x, "h10;");
        Due.due("a second too late", x.game(1, 0), 2);
        Due.due("at", x.game(1, 1), 10);
        Due.due("it had the flag", x.game(1, 2), 0);
        Due.due("against", x.against(10, 1), 0);
        Due.read(x, "h600;");
        Due.due("the longest", x.game(1, 1), 11);
        x = Due.wood("h600;p010f3;");
        Due.due("the longest, to its end", x.game(1, 1), 600);
        x = Due.wood(LATE);
        int[][] seeds = {{1580, 590}, {958, 591}, {770, 600}};
        for (int[] s : seeds) {
            Due.due("won late", x.game(s[0], 0), 0);
            Due.due("when", x.game(s[0], 1), s[1]);
        }
        Due.read(x, "h599;");
        Due.due("a second too late", x.game(770, 0), 2);
        Due.due("in time", x.game(958, 0), 0);
    }

    private static void gamesAtTheEndsOfSeeds() {
        for (int seed : ENDS) {
            TwoFlags x = Due.wood(VARIED);
            TwoFlags y = Due.wood(VARIED);
            y.seed(seed);
            y.go(100);
            y.go(100);
            for (int what = 0; what < 4; what++) {
                int[] states = {1, 0, 5, 4};
                Due.due("game by " + seed + ", " + what, x.game(seed, what), y.state(states[what]));
            }
            Due.due("z stays", x.seed(0), 1);
        }
    }

    /** "AGAINST over n (1 .. 10) GAMES". */
    private static void againstByHowMany() {
        TwoFlags x = Due.wood(ALONE);
        TwoFlags y = Due.wood("p100h3;");
        TwoFlags z = Due.wood("p010f3;");
        for (int n = 1; n <= 10; n++) {
            Due.due("all by side 0", x.against(n, n), n);
            Due.due("all by side 1", y.against(n, n), -n);
            Due.due("by nobody", z.against(n, n), 0);
        }
        int[] none = {0, -1, 11, ENDS[0], ENDS[3]};
        for (int n : none) {
            Due.due("no " + n + " games", x.against(n, 1), FAR - 1);
            Due.due("no " + n + " games", x.fair(n, 1), -1);
            Due.due("no " + n + " games", x.hour(n, 1), -1);
            Due.due("no " + n + " games", x.smaller(0, n, 1), FAR - 1);
            Due.due("no " + n + " games", x.bestPlan(0, 0, n, 1, 0), FAR - 1);
        }
    }

    /** "seeds z, z and 1, ..": an int, whose greatest is behind its least. */
    private static void seedsWrapAround() {
        TwoFlags x = Due.wood(VARIED);
        for (int seed : ENDS) {
            int sum = 0;
            int kinds = 0;
            for (int i = 0; i < 10; i++) {
                int won = x.game(seed + i, 0);
                kinds |= 1 << won;
                sum += won == 0 ? 1 : won == 1 ? -1 : 0;
                Due.due("against " + (i + 1) + " from " + seed, x.against(i + 1, seed), sum);
                Due.due("fair " + (i + 1) + " from " + seed, x.fair(i + 1, seed), Math.abs(sum) <= (i + 1) / 4 ? 1 : 0);
            }
            Due.due("not all the same", Integer.bitCount(kinds) > 1 ? 1 : 0, 1);
        }
    }

    /** "for the first PLAYERS of SIDE 0, of SIDE 1 (by numbers, as many as there are; the others stay". */
    private static void tableRows() {
        // all guard; the one who runs is there by its place in the row
        TwoFlags x = Due.wood("p010a1;p110l1;p010a5;p110l5;p010a0;p110l6;");
        for (int place = 0; place < 5; place++) {
            int[] kinds = new int[place + 1];
            java.util.Arrays.fill(kinds, 1);
            kinds[place] = 4;
            Due.fill(x, 0, 0, kinds);
            x.row(1, 0, 0);
            Due.due("side 0's, place " + place, x.table(0, 1, 0, 1), place < 3 ? 0 : 2);
            Due.due("side 1's, place " + place, x.table(1, 0, 0, 1), place < 3 ? 1 : 2);
        }
        // the others stay: a runner behind a row of one guard, and ahead of none
        x = Due.wood("p010a1;p040a5;");
        Due.fill(x, 0, 0, 1);
        x.row(1, 0, 0);
        Due.due("the second one runs on", x.table(0, 1, 0, 1), 0);
        Due.fill(x, 0, 0, 1, 1);
        Due.due("both guard", x.table(0, 1, 0, 1), 2);
        Due.due("as they are", x.table(1, 1, 0, 1), 0);
        Due.due("side 1 has nobody", x.table(1, 0, 0, 1), 0);
        // one row for both
        x = Due.wood("p010a1;p110l1;");
        Due.fill(x, 0, 0, 4);
        Due.due("one row for both", x.table(0, 0, 0, 1), x.table(0, 0, 0, 2));
        // each kind is one, from 0 to 7
        for (int kind = 0; kind < 8; kind++) {
            x = Due.wood("p010f0;");
            Due.fill(x, 0, 0, kind);
            boolean guards = kind == 1 || kind == 5 || kind == 7;
            Due.due("kind " + kind, x.table(0, 0, 0, 1), guards ? 2 : 0);
        }
        // 100 kinds
        x.row(0, 0, 100);
        Due.due("100 kinds", x.table(0, 0, 0, 1), 0);
        x.put(0, 99, 7);
        Due.due("the last one is a kind", x.table(0, 0, 0, 1), 0);
        x.put(0, 99, 8);
        Due.due("the last one is none", x.table(0, 0, 0, 1), -13);
        x.put(0, 99, -1);
        Due.due("the last one is none", x.table(0, 0, 0, 1), -13);
        x.put(0, 99, 256 + 7);
        Due.due("by its lowest bits", x.table(0, 0, 0, 1), 0);
    }

    /** "with a FIGURE told": theirs alone, whom the rows tell. */
    private static void tableFigures() {
        // a guard at h5 keeps row 3 by a figure of 2 (as near to its home as 3) with reach 1
        TwoFlags x = Due.wood("e1;p040e3;p110h5;");
        Due.fill(x, 0, 0, 1);
        x.row(1, 0, 0);
        int[] kept = new int[10];
        for (int figure = 0; figure < 10; figure++) {
            kept[figure] = x.table(1, 0, figure, 1);
            x.keep(2, 1, 1, figure);
            TwoFlags y = Due.wood("e1;p040e3;p11" + figure + "h5;");
            Due.due("by figure " + figure, kept[figure], y.game(1, 0));
        }
        Due.due("figure 0 keeps nobody", kept[0], 0);
        Due.due("figure 9 keeps it", kept[9], 2);
        Due.due("whom no row tells has its own figure", x.table(1, 1, 9, 1), 0);
        x = Due.wood("e1;p040e3;p119h5;");
        x.row(1, 0, 0);
        Due.due("its own figure stays", x.table(1, 1, 0, 1), 2);
    }

    /** "-1, -11 (either), -12 (no ROWS of bytes), -13 (one that is no KIND, wherever it stands); -3: no PLAYERS". */
    private static void tableRefusesInOrder() {
        TwoFlags x = new TwoFlags();
        int[] none = {-1, 8, ENDS[0], ENDS[3]};
        for (int d : none) {
            Due.due("no shelf " + d, x.table(d, 0, 0, 1), -1);
            Due.due("no shelf " + d, x.table(0, d, 0, 1), -1);
        }
        int[] noFigures = {-1, 10, ENDS[0], ENDS[3]};
        for (int figure : noFigures) {
            Due.due("no figure " + figure, x.table(0, 1, figure, 1), -1);
        }
        Due.due("nothing in both", x.table(0, 1, 9, 1), -11);
        x.keep(0, 1, 0, 0);
        Due.due("a role, and nothing", x.table(0, 1, 0, 1), -11);
        Due.due("nothing, and a role", x.table(1, 0, 0, 1), -11);
        x.row(2, 2, 1);
        x.put(2, 0, 99);
        Due.due("ints, and nothing", x.table(2, 1, 0, 1), -11);
        Due.due("ints, and nothing, no figure", x.table(2, 1, 10, 1), -1);
        Due.fill(x, 3, 0, 8);
        Due.due("no kinds, and nothing", x.table(3, 1, 0, 1), -11);
        Due.due("no kinds, and ints", x.table(3, 2, 0, 1), -12);
        Due.due("ints, and no kinds", x.table(2, 3, 0, 1), -12);
        Due.due("no kinds, and a role", x.table(3, 0, 0, 1), -12);
        Due.due("a role, and no kinds", x.table(0, 3, 0, 1), -12);
        x.row(4, 1, 0);
        Due.due("shorts, though none", x.table(4, 3, 0, 1), -12);
        x.row(5, 0, 0);
        Due.due("no kinds, nobody", x.table(3, 5, 0, 1), -13);
        Due.due("no kinds, nobody", x.table(5, 3, 0, 1), -13);
        Due.due("nobody", x.table(5, 5, 0, 1), -3);
    }

    /** "the KIND that .. brings its SIDE most in AGAINST ..; of several the least". */
    private static void bestPlanIsTheLeastOfSeveral() {
        // nobody can keep it: all kinds that run win, PLAYER is the least of them
        TwoFlags x = Due.wood("p010e3;");
        for (int n = 1; n <= 5; n++) {
            Due.due("kind over " + n, x.bestPlan(0, 0, n, 1, 0), 0);
            Due.due("against over " + n, x.bestPlan(0, 0, n, 1, 1), n);
        }
        // shut in: all are as good, or as bad
        x = Due.wood("g3f0;g3e1;p040e0;p100h3;");
        Due.due("the least of all", x.bestPlan(0, 5, 3, 1, 0), 0);
        Due.due("may be below 0", x.bestPlan(0, 5, 3, 1, 1), -3);
        x = Due.wood("g3f0;g3e1;p040e0;");
        Due.due("the least of all", x.bestPlan(0, 5, 3, 1, 0), 0);
        Due.due("nobody wins", x.bestPlan(0, 5, 3, 1, 1), 0);
        // each kind tried by a role of its own
        x = Due.wood(VARIED);
        for (int player = 0; player < 7; player += 3) {
            int best = -9;
            int lead = FAR;
            x.image();
            for (int kind = 0; kind < 8; kind++) {
                x.keep(0, 1, kind, 4);
                x.role(player, 0);
                int own = x.against(5, 11) * (x.player(player, 0) == 0 ? 1 : -1);
                best = own > lead ? kind : best;
                lead = Math.max(own, lead);
            }
            x.restore();
            Due.due("kind of " + player, x.bestPlan(player, 4, 5, 11, 0), best);
            Due.due("against by it of " + player, x.bestPlan(player, 4, 5, 11, 1), lead);
        }
    }

    /** "(turned about for SIDE 1)": only RINGING stands in the way at i3, with a figure of 0. */
    private static void bestPlanForSide1() {
        TwoFlags x = Due.wood("p040e3;p140h5;");
        Due.due("as they are", x.against(2, 1), 2);
        Due.due("the last kind of all", x.bestPlan(1, 0, 2, 1, 0), 7);
        Due.due("nobody wins by it", x.bestPlan(1, 0, 2, 1, 1), 0);
        x = Due.wood("g3a5;g3b6;p110l0;p000a6;");
        Due.due("side 1 runs", x.bestPlan(0, 0, 5, 1, 0), 0);
        Due.due("side 1 wins all", x.bestPlan(0, 0, 5, 1, 1), 5);
    }

    /** "of a PLAYER with a FIGURE". */
    private static void bestPlanByTheFigure() {
        TwoFlags x = Due.wood("e1;p040e3;p140h5;");
        Due.due("by figure 9 it guards", x.bestPlan(1, 9, 2, 1, 0), 1);
        Due.due("by figure 9", x.bestPlan(1, 9, 2, 1, 1), 0);
        Due.due("by figure 0 it rings", x.bestPlan(1, 0, 2, 1, 0), 7);
        Due.due("its own figure stays", x.player(1, 2), 0);
        Due.due("its own kind stays", x.player(1, 1), 4);
    }

    private static void bestPlanRefuses() {
        TwoFlags x = Due.wood("p000e3;p100h3;");
        int[][] wrong = {{-1, 0, 1, 0}, {2, 0, 1, 0}, {10, 0, 1, 0}, {0, -1, 1, 0}, {0, 10, 1, 0}, {0, 0, 0, 0}, {0, 0, 6, 0},
            {0, 0, 1, -1}, {0, 0, 1, 2}, {ENDS[0], 0, 1, 0}, {ENDS[3], 0, 1, 0}, {0, ENDS[0], 1, 0}, {0, ENDS[3], 1, 0},
            {0, 0, ENDS[0], 0}, {0, 0, ENDS[3], 0}, {0, 0, 1, ENDS[0]}, {0, 0, 1, ENDS[3]}};
        for (int[] w : wrong) {
            Due.due("best plan of " + w[0] + " " + w[1] + " " + w[2] + " " + w[3], x.bestPlan(w[0], w[1], w[2], 1, w[3]), FAR - 1);
        }
        for (int seed : ENDS) {
            Due.due("any seed is well", x.bestPlan(0, 9, 5, seed, 0) >= 0 ? 1 : 0, 1);
        }
    }

    /** "no more than n by 4, cut, either way": just so much is fair, one more is not. */
    private static void fairByAQuarter() {
        int just = 0;
        int more = 0;
        for (int n = 1; n <= 10; n++) {
            TwoFlags x = Due.wood(VARIED);
            for (int seed = 0; seed < 60; seed++) {
                int sum = x.against(n, seed);
                Due.due("fair " + n + ", " + seed + " by " + sum, x.fair(n, seed), sum <= n / 4 && sum >= -(n / 4) ? 1 : 0);
                int bit = sum == n / 4 ? 1 : sum == -(n / 4) ? 2 : 0;
                just |= n == 4 || n == 10 ? bit << (n == 4 ? 0 : 2) : 0;
                int over = sum == n / 4 + 1 ? 1 : sum == -(n / 4) - 1 ? 2 : 0;
                more |= n == 3 || n == 7 ? over << (n == 3 ? 0 : 2) : 0;
            }
        }
        Due.due("just so much of 4 and of 10, either way", just, 15);
        Due.due("one more of 3 and of 7, either way", more, 15);
    }

    /** "AGAINST without a told PLAYER (as if it weren't there) less with it". */
    private static void smallerByOne() {
        TwoFlags x = Due.wood(ALONE);
        for (int n = 1; n <= 10; n++) {
            Due.due("without the only one", x.smaller(0, n, n), -n);
        }
        x = Due.wood("p100h3;");
        Due.due("without side 1's only one", x.smaller(0, 10, 1), 10);
        int[] none = {-1, 1, 10, ENDS[0], ENDS[3]};
        for (int player : none) {
            Due.due("no player " + player, x.smaller(player, 1, 1), FAR - 1);
        }
        // who isn't there is not held, sees nobody, touches nobody, is freed by nobody, counts for no plan
        x = Due.wood("p000f3;p110g3;p000d3;c0110;");
        TwoFlags y = Due.wood("p000f3;p000d3;c0110;");
        Due.due("without the guard", x.smaller(1, 3, 1), y.against(3, 1) - x.against(3, 1));
        x = Due.wood("p000f0;p110g0;p040b6;c0110;");
        y = Due.wood("p110g0;p040b6;c0110;");
        Due.due("without the one who is held", x.smaller(0, 3, 1), y.against(3, 1) - x.against(3, 1));
        Due.due("without it the other one runs", y.against(3, 1), 3);
        Due.due("with it the other one guards", x.against(3, 1), 0);
        // the first, the last of ten
        x = Due.wood("p010a1;p010a1;p010a1;p010a1;p010a1;p010a1;p010a1;p010a1;p010a1;p000e3;");
        Due.due("without the last of ten", x.smaller(9, 2, 1), -2);
        Due.due("without the first of ten", x.smaller(0, 2, 1), 0);
        Due.due("all are there still", x.count(0), 10);
    }

    /** "The least HOUR (10, 20, .. 600)". */
    private static void hoursByTens() {
        TwoFlags x = Due.wood("p000f3;");
        Due.due("won at 10", x.game(1, 1), 10);
        Due.due("won at 10: the hour", x.hour(1, 1), 10);
        x = Due.wood(ALONE);
        Due.due("won at 11: the hour", x.hour(1, 1), 20);
        x = Due.wood(LATE);
        Due.due("won at 590: the hour", x.hour(1, 1580), 590);
        Due.due("won at 591: the hour", x.hour(1, 958), 600);
        Due.due("won at 600: the hour", x.hour(1, 770), 600);
        int seed = 0;
        while (x.game(seed, 0) != 2) {
            seed++;
        }
        Due.due("never won", x.hour(1, seed), -4);
        // whatever the hour is
        Due.read(x, "h10;");
        Due.due("the hour that is does not matter", x.hour(1, 770), 600);
        Due.due("and stays", x.rule(5), 10);
        x = Due.wood("p010f3;");
        Due.due("never", x.hour(10, 1), -4);
    }

    /** "more than half of n (1 .. 10) GAMES are WON by somebody". */
    private static void hoursByMoreThanHalf() {
        int halves = 0;
        for (int n = 1; n <= 10; n++) {
            TwoFlags x = Due.wood(LATE);
            for (int seed = 100; seed < 112; seed++) {
                int[] won = new int[61];
                for (int i = 0; i < n; i++) {
                    if (x.game(seed + i, 0) != 2) {
                        won[(x.game(seed + i, 1) + 9) / 10]++;
                    }
                }
                int least = -4;
                int sum = 0;
                for (int ten = 1; ten <= 60 && least == -4; ten++) {
                    sum += won[ten];
                    halves += won[ten] > 0 && 2 * sum == n ? 1 : 0;
                    least = sum > n - sum ? 10 * ten : -4;
                }
                Due.due("hour of " + n + " from " + seed, x.hour(n, seed), least);
            }
        }
        Due.due("just half some time", halves > 0 ? 1 : 0, 1);
        // by somebody: side 1 too
        TwoFlags x = Due.wood("p100h3;");
        Due.due("won by side 1", x.hour(10, 1), 20);
    }

    /** "(in mind)": what there is stays as it is, with the best and the worst of arguments. */
    private static void nothingIsChanged() {
        TwoFlags x = Due.wood("t60;e1;g2g3;l1;f1;p000e3;p110h3;p060e6;p140g0;c0110;");
        x.go(5);
        x.row(0, 0, 2);
        int[] was = told(x);
        x.game(3, 0);
        x.against(10, 3);
        x.table(0, 0, 5, 3);
        x.bestPlan(1, 5, 2, 3, 0);
        x.fair(2, 3);
        x.smaller(0, 2, 3);
        x.hour(2, 3);
        x.judge(0, 0);
        int[] is = told(x);
        for (int i = 0; i < was.length; i++) {
            Due.due("as it was " + i, is[i], was[i]);
        }
    }

    private static int[] told(TwoFlags x) {
        int[] told = new int[59];
        int at = 0;
        for (int i = 0; i < 36; i++) {
            told[at++] = x.player(i / 9, i % 9);
        }
        for (int i = 0; i < 6; i++) {
            told[at++] = x.state(i);
            told[at++] = x.rule(i);
            told[at++] = x.count(i);
        }
        for (int i = 0; i < 4; i++) {
            told[at++] = x.flag(i / 2, i % 2);
        }
        told[at] = x.seed(7);
        x.seed(told[at]);
        return told;
    }
}
