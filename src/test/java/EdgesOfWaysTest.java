/** The edges that promises 22 to 29 and their part 4 of the document name: numbers, guards, ways, where one is. */
public final class EdgesOfWaysTest {
    private static final int FAR = -1000000000;
    private static final int[] ENDS = {Integer.MIN_VALUE, Integer.MAX_VALUE};

    public static void main(String[] args) {
        gains();
        rests();
        sure();
        guardsOfBothColumns();
        guardsByGround();
        guardsRefuse();
        waysAtTheEndsOfRows();
        waysOutOfAndIntoThicket();
        waysByCellsEntered();
        waysWithAsLittle();
        waysByFreeOnesOfASide();
        waysRefuse();
        mayBeBySeconds();
        mayBeByGround();
        mayBeRefuses();
        worthByWhoIsAsNearAs2();
        believedByWhoGoesThere();
        believedRefuses();
        Due.end();
    }

    /** "if that is above 0, else 0"; n 1 .. 6, i and j no more than n. */
    private static void gains() {
        TwoFlags x = new TwoFlags();
        int[][] two = {{0, -1, 0}, {1, 0, 0}, {0, 0, 0}};
        int[][] three = {{0, -1, -1, 0}, {1, 0, 0, 0}, {1, 0, 0, 0}, {0, 0, 0, 0}};
        for (int i = 0; i <= 3; i++) {
            for (int j = 0; j <= 3; j++) {
                Due.due("gain 3 " + i + " " + j, x.gain(3, i, j), three[i][j]);
                Due.due("gain 2 " + i + " " + j, x.gain(2, i, j), i < 3 && j < 3 ? two[i][j] : FAR - 1);
            }
        }
        Due.due("two at home, none there", x.gain(6, 2, 0), 4 - 2);
        Due.due("the greatest of all", x.gain(6, 3, 0), 3);
        Due.due("the least of all", x.gain(6, 0, 3), -3);
        for (int n = 1; n <= 6; n++) {
            Due.due("none at home", x.gain(n, 0, 0), 0);
            Due.due("all at home", x.gain(n, n, n), 0);
            Due.due("all at home, none there", x.gain(n, n, 0), 0);
            Due.due("none at home, all there", x.gain(n, 0, n), 0);
            int[] none = {-1, n + 1, ENDS[0], ENDS[1]};
            for (int i : none) {
                Due.due("no i " + i + " of " + n, x.gain(n, i, 0), FAR - 1);
                Due.due("no j " + i + " of " + n, x.gain(n, 0, i), FAR - 1);
            }
        }
        int[] none = {0, -1, 7, ENDS[0], ENDS[1]};
        for (int n : none) {
            Due.due("no n " + n, x.gain(n, 0, 0), FAR - 1);
            Due.due("no n " + n, x.sure(n, 0), FAR - 1);
            Due.due("no n " + n, x.rests(n, 0), -1);
            Due.due("no n " + n, x.rests(n, -1), -1);
        }
    }

    /** "how many (k -1), the k-th; -4. -1"; "(by i, then j)". */
    private static void rests() {
        TwoFlags x = new TwoFlags();
        int[][] all = {{0, 1, 10, 11}, {11, 12, 21, 22}, {11, 12, 13, 21, 22, 23, 31, 32, 33}};
        for (int n = 1; n <= 3; n++) {
            Due.due("how many of " + n, x.rests(n, -1), all[n - 1].length);
            for (int k = 0; k < all[n - 1].length; k++) {
                Due.due("rest " + k + " of " + n, x.rests(n, k), all[n - 1][k]);
            }
            Due.due("none behind the last of " + n, x.rests(n, all[n - 1].length), -4);
        }
        for (int n = 1; n <= 6; n++) {
            Due.due("k -2 of " + n, x.rests(n, -2), -1);
            Due.due("k as little as can be", x.rests(n, ENDS[0]), -1);
            Due.due("k as great as can be", x.rests(n, ENDS[1]), -4);
            int many = x.rests(n, -1);
            Due.due("the last is the greatest pair", x.rests(n, many - 1), 11 * n);
            Due.due("none behind it", x.rests(n, many), -4);
        }
    }

    /** "the greatest GAIN of which SIDE 0 can be sure; its i, of several the least". */
    private static void sure() {
        TwoFlags x = new TwoFlags();
        int[] least = {0, 1, 1, 1, 2, 2};
        for (int n = 1; n <= 6; n++) {
            Due.due("sure of " + n, x.sure(n, 0), 0);
            Due.due("i of " + n, x.sure(n, 1), least[n - 1]);
            // a lesser i is not as sure
            int worst = 0;
            for (int j = 0; j <= n && least[n - 1] > 0; j++) {
                worst = Math.min(worst, x.gain(n, least[n - 1] - 1, j));
            }
            Due.due("one less at home is below 0", worst < 0 || least[n - 1] == 0 ? 1 : 0, 1);
        }
        int[] none = {-1, 2, ENDS[0], ENDS[1]};
        for (int what : none) {
            Due.due("no what " + what, x.sure(3, what), FAR - 1);
        }
    }

    /** Each COLUMN with thickets of all sorts, by d from 0 to 6, against all choices. */
    private static void guardsOfBothColumns() {
        for (int shut = 0; shut < 128; shut += 3) {
            for (int side = 0; side < 2; side++) {
                StringBuilder text = new StringBuilder("e0;");
                for (int row = 0; row < 7; row++) {
                    text.append((shut >> row & 1) == 1 ? "g3" + "fg".charAt(side) + row + ";" : "");
                }
                TwoFlags x = Due.wood(text.toString());
                for (int d = 0; d <= 6; d++) {
                    int best = fewest(shut, d);
                    String what = "shut " + shut + " of side " + side + ", d " + d;
                    Due.due(what, x.guards(side, d, 1), best);
                    Due.due(what, x.guards(side, d, 0), best == -4 ? -4 : Integer.bitCount(best));
                    Due.due(what + ", the other column", x.guards(1 - side, d, 1), fewest(0, d));
                }
            }
        }
    }

    private static int fewest(int shut, int d) {
        int best = -4;
        for (int rows = 127; rows >= 0; rows--) {
            boolean well = (rows & shut) == 0;
            for (int row = 0; row < 7 && well; row++) {
                int seen = 0;
                for (int guard = 0; guard < 7; guard++) {
                    seen += (rows >> guard & 1) == 1 && guard - row <= d && row - guard <= d ? 1 : 0;
                }
                well = (shut >> row & 1) == 1 || seen >= 2;
            }
            if (well && (best == -4 || Integer.bitCount(rows) <= Integer.bitCount(best))) {
                best = rows;
            }
        }
        return best;
    }

    /** "(0 of a COLUMN all THICKET); -4 none"; fern and brook are cells as any. */
    private static void guardsByGround() {
        TwoFlags x = Due.wood("g1f0f6;g2g0g6;");
        for (int side = 0; side < 2; side++) {
            Due.due("d 0: nobody is seen by two", x.guards(side, 0, 0), -4);
            Due.due("d 0: nobody is seen by two", x.guards(side, 0, 1), -4);
            Due.due("d 1", x.guards(side, 1, 0), 6);
            Due.due("d 1", x.guards(side, 1, 1), 0b1101111);
            Due.due("d 6", x.guards(side, 6, 0), 2);
            Due.due("d 6: the least rows", x.guards(side, 6, 1), 3);
        }
        x = Due.wood("g3f0f6;g3g0g5;");
        for (int d = 0; d <= 6; d++) {
            Due.due("all thicket: none is wanted", x.guards(0, d, 0), 0);
            Due.due("all thicket: no rows", x.guards(0, d, 1), 0);
            Due.due("one cell alone: never seen by two", x.guards(1, d, 0), -4);
            Due.due("one cell alone: never seen by two", x.guards(1, d, 1), -4);
        }
        // two cells alone, rows 0 and 6: they see each other by 6
        x = Due.wood("g3f1f5;");
        Due.due("by 5", x.guards(0, 5, 0), -4);
        Due.due("by 6", x.guards(0, 6, 0), 2);
        Due.due("by 6", x.guards(0, 6, 1), 65);
    }

    private static void guardsRefuse() {
        TwoFlags x = new TwoFlags();
        int[][] wrong = {{-1, 0, 0}, {2, 0, 0}, {0, -1, 0}, {0, 7, 0}, {0, 0, -1}, {0, 0, 2}};
        for (int[] w : wrong) {
            Due.due("guards " + w[0] + " " + w[1] + " " + w[2], x.guards(w[0], w[1], w[2]), -1);
        }
        for (int end : ENDS) {
            Due.due("no side", x.guards(end, 0, 0), -1);
            Due.due("no d", x.guards(0, end, 0), -1);
            Due.due("no what", x.guards(0, 0, end), -1);
        }
    }

    private static void way(String what, TwoFlags x, String from, String to, int side, int sum, int steps) {
        String call = what + ", " + from + " to " + to + " by side " + side;
        Due.due(call + ": sum", x.wayIn(Due.at(from), Due.at(to), side, 0), sum);
        Due.due(call + ": steps", x.wayIn(Due.at(from), Due.at(to), side, 1), steps);
    }

    /** "to one of four CELLS beside": a row's end is beside no other row's beginning. */
    private static void waysAtTheEndsOfRows() {
        TwoFlags x = new TwoFlags();
        way("row's end to the next row's beginning", x, "l0", "a1", 0, 0, 12);
        way("and back", x, "a1", "l0", 0, 0, 12);
        way("corners", x, "a0", "l6", 1, 0, 17);
        way("corners", x, "l6", "a0", 1, 0, 17);
        way("corners", x, "a6", "l0", 1, 0, 17);
        way("corners", x, "l0", "a6", 1, 0, 17);
        way("beside", x, "a0", "a1", 0, 0, 1);
        way("beside", x, "a0", "b0", 0, 0, 1);
        for (int cell = 0; cell < 84; cell++) {
            Due.due("0 to itself", x.wayIn(cell, cell, 0, 0), 0);
            Due.due("0 to itself", x.wayIn(cell, cell, 0, 1), 0);
        }
        x = Due.wood("g3a1b1;g3b0;");
        way("shut in at a corner", x, "a0", "a2", 0, -4, -4);
        way("shut out of a corner", x, "a2", "a0", 0, -4, -4);
        way("shut in, to itself", x, "a0", "a0", 0, 0, 0);
    }

    /** "(into no THICKET)"; "-4 no way". */
    private static void waysOutOfAndIntoThicket() {
        TwoFlags x = Due.wood("g3c2;");
        way("out of thicket", x, "c2", "d2", 0, 0, 1);
        way("into thicket", x, "d2", "c2", 0, -4, -4);
        way("thicket to itself", x, "c2", "c2", 0, 0, 0);
        way("about it", x, "b2", "d2", 0, 0, 4);
        x = Due.wood("g3f0f6;");
        way("a wall", x, "a3", "l3", 0, -4, -4);
        way("out of the wall", x, "f3", "l3", 0, 0, 6);
        way("out of the wall, the other way", x, "f3", "a3", 0, 0, 5);
        // by walls that are open at one end: along row 0, down to row 4, along it, down to row 6
        x = Due.wood("g3b1l1;g3c3j3;g3a5k5;");
        way("a winding way", x, "l0", "l6", 0, 0, 11 + 4 + 11 + 2);
    }

    /** "the least sum over CELLS entered of how many FREE ones of a told SIDE SEE it": not of the cell it goes from. */
    private static void waysByCellsEntered() {
        // a watcher at l0 sees j0 and k1, not g0: as near as 4 is h0
        TwoFlags x = Due.wood("g3g1l1;p100l0;");
        way("into what is seen", x, "g0", "h0", 1, 1, 1);
        way("out of what is seen", x, "h0", "g0", 1, 0, 1);
        way("two cells that are seen", x, "g0", "i0", 1, 2, 2);
        way("to where it stands", x, "g0", "l0", 1, 5, 5);
        way("from where it stands", x, "l0", "g0", 1, 4, 5);
        way("the other side sees nothing", x, "g0", "l0", 0, 0, 5);
        // ten of them
        x = Due.wood("p100l0;p100l0;p100l0;p100l0;p100l0;p100l0;p100l0;p100l0;p100l0;p100l0;");
        Due.read(x, "g3g1l1;");
        way("seen by ten", x, "g0", "h0", 1, 10, 1);
        way("seen by ten, all the way", x, "g0", "l0", 1, 50, 5);
        // into fern as near as 1
        x = Due.wood("g3g1l1;g1g0k0;p100l0;");
        way("fern is seen from beside alone", x, "g0", "k0", 1, 1, 4);
        way("fern is not seen from afar", x, "g0", "j0", 1, 0, 3);
    }

    /** "how many STEPS at least with so little". */
    private static void waysWithAsLittle() {
        // a watcher at f0 sees b0, c0 and c1, not b1: by row 0 it is two cells and two steps, by row 1 two and four
        TwoFlags x = Due.wood("g3a2l2;p000f0;");
        way("of two ways with two the shorter", x, "a0", "c0", 0, 2, 2);
        // a watcher at f3 sees row 3 from b3 to j3, and of row 0 only e0, f0 and g0: three rather than nine
        x = Due.wood("p000f3;");
        way("a long way with less", x, "a3", "k3", 0, 3, 3 + 10 + 3);
        // a watcher at l0: the ways along the ends of its sight are no longer than others
        x = Due.wood("p100l0;");
        way("a way with nothing", x, "g0", "l5", 1, 0, 10);
        way("the least steps of those", x, "a0", "l5", 1, 0, 16);
        way("one cell that must be seen", x, "l5", "l4", 1, 1, 1);
        way("about", x, "g0", "h2", 1, 0, 3);
    }

    /** "FREE ones of a told SIDE": who is held sees nothing. */
    private static void waysByFreeOnesOfASide() {
        TwoFlags x = Due.wood("p000f3;p110g3;p100l0;");
        way("0 sees g3", x, "h3", "g3", 0, 1, 1);
        way("1 sees g3", x, "h3", "g3", 1, 1, 1);
        x.go(1);
        Due.due("0 is held", x.player(0, 5), 1);
        way("0 sees nothing", x, "h3", "g3", 0, 0, 1);
        way("0 sees nothing at l6", x, "k6", "l6", 0, 0, 1);
        // now: from where they are
        x = Due.wood("p000f3;");
        way("from home", x, "k3", "j3", 0, 1, 1);
        way("from home, too far", x, "l3", "k3", 0, 0, 1);
        x.go(1);
        way("a step on", x, "l3", "k3", 0, 1, 1);
    }

    private static void waysRefuse() {
        TwoFlags x = new TwoFlags();
        int[][] wrong = {{-1, 0, 0, 0}, {84, 0, 0, 0}, {0, -1, 0, 0}, {0, 84, 0, 0}, {0, 1, -1, 0}, {0, 1, 2, 0}, {0, 1, 0, -1},
            {0, 1, 0, 2}, {84, 84, 0, 0}, {-1, -1, 0, 1}, {0, 0, 2, 0}, {0, 0, 0, 2}};
        for (int[] w : wrong) {
            Due.due("way in " + w[0] + " " + w[1] + " " + w[2] + " " + w[3], x.wayIn(w[0], w[1], w[2], w[3]), -1);
        }
        for (int end : ENDS) {
            Due.due("no cell", x.wayIn(end, 0, 0, 0), -1);
            Due.due("no cell", x.wayIn(0, end, 0, 0), -1);
            Due.due("no side", x.wayIn(0, 0, end, 0), -1);
            Due.due("no what", x.wayIn(0, 0, 0, end), -1);
        }
    }

    /** "n (0 .. 20) SECONDS later": in a wood of path, all that is as near. */
    private static void mayBeBySeconds() {
        TwoFlags x = new TwoFlags();
        int[] cells = {0, 11, 72, 83, 41};
        for (int cell : cells) {
            for (int n = 0; n <= 20; n++) {
                int near = 0;
                for (int other = 0; other < 84; other++) {
                    near += Math.abs(cell % 12 - other % 12) + Math.abs(cell / 12 - other / 12) <= n ? 1 : 0;
                }
                Due.due("from " + cell + " in " + n, x.mayBe(cell, n), near);
            }
        }
    }

    /** "into no THICKET; BROOK as any". */
    private static void mayBeByGround() {
        TwoFlags x = Due.wood("g2c2;g1e2;g3d1;");
        Due.due("brook and fern as any", x.mayBe(Due.at("d2"), 1), 4);
        Due.due("out of brook", x.mayBe(Due.at("c2"), 1), 5);
        x = Due.wood("g3a1b1;g3b0;");
        for (int n = 0; n <= 20; n++) {
            Due.due("shut in, " + n, x.mayBe(0, n), 1);
        }
        Due.due("all the others", x.mayBe(83, 20), 80);
        // a winding lane: one cell more with each second, till it widens
        x = Due.wood("g3b0b2;g3a3;");
        Due.due("a lane, 0", x.mayBe(0, 0), 1);
        Due.due("a lane, 1", x.mayBe(0, 1), 2);
        Due.due("a lane, 2", x.mayBe(0, 2), 3);
        Due.due("its end", x.mayBe(0, 3), 3);
        Due.due("its end", x.mayBe(0, 20), 3);
    }

    /** "-1 (a THICKET, too)". */
    private static void mayBeRefuses() {
        TwoFlags x = Due.wood("g3c2;");
        int[][] wrong = {{-1, 0}, {84, 0}, {0, -1}, {0, 21}, {26, 0}, {26, 20}, {ENDS[0], 0}, {ENDS[1], 0}, {0, ENDS[0]}, {0, ENDS[1]}};
        for (int[] w : wrong) {
            Due.due("may be " + w[0] + " " + w[1], x.mayBe(w[0], w[1]), -1);
        }
        Due.due("the least", x.mayBe(0, 0), 1);
        Due.due("the most", x.mayBe(0, 20), 83);
    }

    /** "FREE ones of the other SIDE .. as NEAR to that GAOL as 2 or nearer". */
    private static void worthByWhoIsAsNearAs2() {
        String[][] cells = {{"l6", "0"}, {"k6", "1"}, {"l5", "1"}, {"j6", "2"}, {"k5", "2"}, {"l4", "2"}, {"i6", "3"}, {"j5", "3"},
            {"k4", "3"}, {"l3", "3"}};
        for (String[] c : cells) {
            int want = Integer.parseInt(c[1]) <= 2 ? -1 : 0;
            TwoFlags x = Due.wood("r0;p110" + c[0] + ";");
            Due.due("side 1's as near as " + c[1] + " at " + c[0], x.worth(0), want);
            Due.due("the other gaol", x.worth(1), 0);
            x = Due.wood("r0;p010" + Due.named(83 - Due.at(c[0])) + ";");
            Due.due("side 0's as near as " + c[1], x.worth(1), want);
            Due.due("the other gaol", x.worth(0), 0);
        }
        // ten of them; held ones against them; one of the own side near does not matter
        TwoFlags x = Due.wood("p110l6;p110l6;p110l6;p110l6;p110l6;p110l6;p110l6;p110l6;p110l6;p110l6;");
        Due.due("ten about it", x.worth(0), -10);
        x = Due.wood("p110g3;" + "p000f3;".repeat(9));
        x.go(1);
        Due.due("nine are held", x.worth(0), 9);
        Due.due("none of side 1", x.worth(1), 0);
        x = Due.wood("p000f3;p110g3;p060f6;p110k6;");
        x.go(1);
        Due.due("one held, one about it", x.worth(0), 0);
        x = Due.wood("t0;p000f3;p000f3;p110g3;p060f6;");
        Due.read(x, "t100;");
        x.go(6);
        Due.due("who frees is there", x.player(3, 4), 83);
        Due.due("one is held still, who frees does not matter", x.worth(0), 1);
        int[] none = {-1, 2, ENDS[0], ENDS[1]};
        for (int side : none) {
            Due.due("no side " + side, x.worth(side), FAR - 1);
        }
    }

    /** "how many FREE ones of the other SIDE would have a PLAYER as the one to whom they go now". */
    private static void believedByWhoGoesThere() {
        // all kinds at h4, their turns ahead of 8's, who comes to g3: those that guard go to it
        for (int kind = 0; kind < 8; kind++) {
            TwoFlags x = Due.wood("t0;p1" + kind + "9h4;p000f3;");
            x.keep(0, 1, 1, 0);
            x.role(0, 0);
            x.go(1);
            x.keep(0, 1, kind, 9);
            x.role(0, 0);
            Due.due("by kind " + kind, x.believed(1), kind == 1 || kind == 5 || kind == 7 ? 1 : 0);
            Due.due("the goal of kind " + kind, x.player(0, 8) == Due.at("g3") ? 1 : 0, x.believed(1));
            Due.due("of the guard itself", x.believed(0), 0);
        }
        // as near to their homes as figure and 1, as near to themselves as 4; one in fern from beside alone
        TwoFlags x = Due.wood("t0;p110g2;p110h2;p111h2;p119i5;p119j5;p000f3;");
        x.go(1);
        Due.due("0, 2 and 3 go there", x.believed(5), 3);
        x = Due.wood("t0;g1g3;p110g2;p111h2;p119i5;p119j5;p000f3;");
        x.go(1);
        Due.due("0 alone sees into fern", x.believed(4), 1);
        // each goes to one alone, the nearest, the least number
        x = Due.wood("t0;p119g3;p119g5;p000f2;p000f4;p000f6;");
        x.go(1);
        Due.due("2 by 0", x.believed(2), 1);
        Due.due("3 by 1", x.believed(3), 1);
        Due.due("4 by nobody", x.believed(4), 0);
        // side 0's guards likewise
        x = Due.wood("t0;p010f2;p010f4;p100g3;");
        x.go(1);
        Due.due("both go there", x.believed(2), 2);
        // nine of them
        x = Due.wood("t0;" + "p119h3;".repeat(9) + "p000f3;");
        x.go(1);
        Due.due("all nine", x.believed(9), 9);
    }

    /** "-1; -3: it is HELD". */
    private static void believedRefuses() {
        TwoFlags x = Due.wood("p119h3;p000f3;p000f3;");
        int[] none = {-1, 3, 9, 10, ENDS[0], ENDS[1]};
        for (int player : none) {
            Due.due("no player " + player, x.believed(player), -1);
        }
        Due.due("free", x.believed(1), 0);
        x.go(2);
        Due.due("held", x.player(1, 5), 1);
        Due.due("held", x.believed(1), -3);
        Due.due("no player is told first", x.believed(3), -1);
        Due.due("nobody is there", new TwoFlags().believed(0), -1);
    }
}
