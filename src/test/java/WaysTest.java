/** Promises 25 to 29: guards, the way in, where one may be, the worth of freeing, how far one is believed. */
public final class WaysTest {
    public static void main(String[] args) {
        guards();
        waysIn();
        maysBe();
        worth();
        believed();
        Due.end();
    }

    private static void guards() {
        TwoFlags x = new TwoFlags();
        int[][] wrong = {{2, 0, 0}, {-1, 0, 0}, {0, 7, 0}, {0, -1, 0}, {0, 0, 2}, {0, 0, -1}};
        for (int[] w : wrong) {
            Due.due("25 refused", x.guards(w[0], w[1], w[2]), -1);
        }
        // d 0: each sees but itself; d 3: rows 0 and 6 need two of 0 .. 3 and two of 3 .. 6, the middle two of any
        Due.due("25 d 0", x.guards(0, 0, 0), -4);
        Due.due("25 d 0", x.guards(0, 0, 1), -4);
        Due.due("25 d 3", x.guards(0, 3, 0), 3);
        Due.due("25 d 3", x.guards(0, 3, 1), 0b0011001);
        Due.due("25 d 6", x.guards(1, 6, 0), 2);
        Due.due("25 d 6", x.guards(1, 6, 1), 3);
        // side 0 has column 5, side 1 column 6; only rows that aren't thicket, and only they need be seen
        x = Due.wood("g3f0f5;");
        Due.due("25 one row, d 6", x.guards(0, 6, 0), -4);
        Due.due("25 the other column", x.guards(1, 6, 0), 2);
        x = Due.wood("g3g0g4;");
        Due.due("25 two rows, d 1", x.guards(1, 1, 0), 2);
        Due.due("25 two rows, d 1", x.guards(1, 1, 1), 96);
        Due.due("25 two rows, d 0", x.guards(1, 0, 0), -4);
        x = Due.wood("g3f0f6;");
        Due.due("25 all thicket", x.guards(0, 0, 0), 0);
        Due.due("25 all thicket", x.guards(0, 0, 1), 0);
        // by the words alone, for all thickets of column 5
        for (int shut = 0; shut < 128; shut += 5) {
            StringBuilder text = new StringBuilder("e0;");
            for (int row = 0; row < 7; row++) {
                text.append((shut >> row & 1) == 1 ? "g3f" + row + ";" : "");
            }
            x = Due.wood(text.toString());
            for (int d = 0; d < 7; d++) {
                int best = fewest(shut, d);
                Due.due("25 shut " + shut + ", d " + d, x.guards(0, d, 1), best);
                Due.due("25 shut " + shut + ", d " + d, x.guards(0, d, 0), best == -4 ? -4 : Integer.bitCount(best));
            }
        }
    }

    private static int fewest(int shut, int d) {
        for (int many = 0; many <= 7; many++) {
            for (int rows = 0; rows < 128; rows++) {
                boolean well = Integer.bitCount(rows) == many && (rows & shut) == 0;
                for (int row = 0; row < 7; row++) {
                    int seeing = 0;
                    for (int guard = 0; guard < 7; guard++) {
                        seeing += (rows >> guard & 1) == 1 && Math.abs(guard - row) <= d ? 1 : 0;
                    }
                    well &= (shut >> row & 1) == 1 || seeing >= 2;
                }
                if (well) {
                    return rows;
                }
            }
        }
        return -4;
    }

    private static void way(String what, TwoFlags x, int[] call, int sum, int steps) {
        Due.due("26 " + what + ": sum", x.wayIn(call[0], call[1], call[2], 0), sum);
        Due.due("26 " + what + ": steps", x.wayIn(call[0], call[1], call[2], 1), steps);
    }

    private static void waysIn() {
        TwoFlags x = new TwoFlags();
        int[][] wrong = {{-1, 0, 0, 0}, {84, 0, 0, 0}, {0, -1, 0, 0}, {0, 84, 0, 0}, {0, 0, 2, 0}, {0, 0, -1, 0},
            {0, 0, 0, 2}, {0, 0, 0, -1}};
        for (int[] w : wrong) {
            Due.due("26 refused", x.wayIn(w[0], w[1], w[2], w[3]), -1);
        }
        way("nobody sees", x, new int[] {83, 0, 0}, 0, 17);
        way("to itself", x, new int[] {5, 5, 0}, 0, 0);
        x = Due.wood("g3c0;p100g0;p000a6;");
        way("out of thicket", x, new int[] {2, 3, 1}, 1, 1);
        way("into thicket", x, new int[] {3, 2, 1}, -4, -4);
        way("thicket to itself", x, new int[] {2, 2, 1}, 0, 0);
        way("the first cell is not entered", x, new int[] {6, 6, 1}, 0, 0);
        // about a watcher at (6, 0), who sees columns 2 .. 10 of row 0, and row 4 at (6, 4) alone
        way("a long way, little seen", x, new int[] {1, 11, 1}, 0, 20);
        way("those of the other side do not matter", x, new int[] {5, 7, 0}, 0, 2);
        way("no way about", x, new int[] {6, 7, 1}, 1, 1);
        x = Due.wood("g1a5l5;p100g0;p100g0;");
        way("seen by two", x, new int[] {6, 7, 1}, 2, 1);
        // fern is seen from near alone
        x = Due.wood("g1g1;g3g0f0;g3e0e6;p100g3;");
        way("shut off", x, new int[] {3, 5, 1}, -4, -4);
        x = Due.wood("g1f2f4;p100h3;");
        way("into fern", x, new int[] {Due.cell(4, 2), Due.cell(5, 2), 1}, 0, 1);
        way("into path", x, new int[] {Due.cell(5, 2), Due.cell(4, 2), 1}, 1, 1);
        // who is held sees nothing
        x = Due.wood("p000f3;p110g3;");
        way("a free one sees", x, new int[] {43, 44, 0}, 1, 1);
        x.go(1);
        way("a held one does not", x, new int[] {82, 83, 0}, 0, 1);
    }

    private static void maysBe() {
        TwoFlags x = Due.wood("g3c0c6;g2e3;g3a1;");
        Due.due("27 no cell", x.mayBe(-1, 0), -1);
        Due.due("27 no cell", x.mayBe(84, 0), -1);
        Due.due("27 n -1", x.mayBe(5, -1), -1);
        Due.due("27 n 21", x.mayBe(5, 21), -1);
        Due.due("27 a thicket", x.mayBe(2, 0), -1);
        Due.due("27 0 seconds", x.mayBe(5, 0), 1);
        Due.due("27 1 second at a corner", x.mayBe(11, 1), 3);
        Due.due("27 1 second", x.mayBe(Due.cell(5, 3), 1), 5);
        Due.due("27 2 seconds", x.mayBe(Due.cell(5, 3), 2), 13);
        Due.due("27 no way through thicket", x.mayBe(Due.cell(3, 3), 1), 4);
        Due.due("27 all that is open", x.mayBe(Due.cell(6, 3), 20), 63);
        Due.due("27 the small part", x.mayBe(0, 20), 13);
        Due.due("27 no row is beside the next one's end", x.mayBe(12 + 11, 1), 4);
    }

    private static void worth() {
        TwoFlags x = Due.wood("p000f3;p110g3;p150l4;p150i6;p000a0;");
        Due.due("28 no side", x.worth(2), -1000000001);
        Due.due("28 no side", x.worth(-1), -1000000001);
        Due.due("28 none held, one as near as 2", x.worth(0), -1);
        Due.due("28 the other gaol", x.worth(1), -1);
        x.go(1);
        Due.due("28 one held, two near", x.worth(0), -1);
        Due.due("28 who is near to (0, 0) goes, and is near still", x.worth(1), -1);
        x.go(2);
        Due.due("28 and is so no more", x.worth(1), 0);
    }

    private static void believed() {
        TwoFlags x = Due.wood("t0;p000f3;p110g4;p112g2;p172h3;p159l5;p000f1;");
        Due.due("29 no player", x.believed(6), -1);
        Due.due("29 no player", x.believed(-1), -1);
        Due.due("29 not over yet", x.believed(0), 0);
        x.go(1);
        // 0 at (6, 3): 1, 2, 3 go after it, the gaoling one does not see it; 5 at (6, 1)
        Due.due("29 three go after it", x.believed(0), 3);
        Due.due("29 after the other nobody", x.believed(5), 0);
        Due.due("29 after a guard nobody", x.believed(1), 0);
        x.keep(0, 1, 4, 5);
        x.role(2, 0);
        Due.due("29 running ones do not count", x.believed(0), 2);
        x.keep(0, 1, 5, 9);
        x.role(2, 0);
        Due.due("29 gaoling ones do", x.believed(0), 3);
        Due.read(x, "t100;");
        x.go(1);
        Due.due("29 who is held", x.believed(0), -3);
        // who has a flag goes home, and after nobody; without it it would go after 1
        x = Due.wood("t0;p100g3;p010f3;");
        x.go(6);
        x.keep(0, 1, 0, 0);
        x.role(1, 0);
        x.go(1);
        x.keep(0, 1, 1, 9);
        x.role(0, 0);
        Due.due("29 0 has a flag", x.player(0, 6), 1);
        Due.due("29 0 sees 1", x.sees(0, x.player(1, 4)), 1);
        Due.due("29 1 is on 0's half", x.player(1, 4), Due.cell(6, 3));
        Due.due("29 0 goes home", x.believed(1), 0);
        x = Due.wood("t0;p119g2;p000f3;");
        x.go(1);
        Due.due("29 the first of all goes after it", x.believed(1), 1);
        // by a plan a running one guards
        x = Due.wood("t100;p010f3;p040a5;p100g3;p100i4;c1119;p140g5;p010f4;");
        x.go(1);
        Due.due("29 held", x.player(2, 5), 1);
        Due.due("5 by the plan", x.player(4, 1), 1);
    }
}
