/** The edges that the document's "Terms" name: cells, sides, rules, homes, who sees, goals by kinds, steps, brooks. */
public final class EdgesOfTermsTest {
    private static final int[] FLAGS = {37, 46};

    public static void main(String[] args) {
        cellsOfTheWood();
        fourCellsArePathAlways();
        rulesAtFirst();
        homesBySidesAndRings();
        tenPlayers();
        seesAsNearAs4();
        seesIntoFern();
        guardsSeeWhomTheyGoTo();
        guardsByFigureAnd1();
        guardsOnTheirOwnHalf();
        guardsToTheNearest();
        gaolingByItsGaolEachTime();
        ringingByItsHome();
        creepingByFigureHalved();
        creepingByTheNextCell();
        drawingByFigure();
        creepingAndDrawingByWhoIsFree();
        nobodyElseIsThere();
        freeingIfOneIsHeld();
        whoHasAFlagWhateverItsKind();
        flagsWhereTheyAreNow();
        stepsAlongColumnsOrRows();
        stepsTheOtherWay();
        stepsNotIntoTheOwnRing();
        brookTakesASecondMore();
        Due.end();
    }

    private static void goal(String what, String text, int player, String cell) {
        Due.due(what + ": goal by " + text, Due.wood(text).player(player, 8), Due.at(cell));
    }

    private static void goalLater(String what, String text, int seconds, int player, String cell) {
        TwoFlags x = Due.wood(text);
        x.go(seconds);
        Due.due(what + ": goal by " + text + " after " + seconds, x.player(player, 8), Due.at(cell));
    }

    private static void cellLater(String what, String text, int seconds, int player, String cell) {
        TwoFlags x = Due.wood(text);
        x.go(seconds);
        Due.due(what + ": cell by " + text + " after " + seconds, x.player(player, 4), Due.at(cell));
    }

    /** "COLUMNS 0 .. 11, ROWS 0 .. 6 (12 by 7 CELLS)", "0 PATH (at first)", "NEAR of two CELLS". */
    private static void cellsOfTheWood() {
        TwoFlags x = new TwoFlags();
        int[] cells = {0, 11, 72, 83};
        for (int cell : cells) {
            Due.due("a corner " + cell, x.ground(cell), 0);
        }
        int[] none = {-1, 84, Integer.MIN_VALUE, Integer.MAX_VALUE};
        for (int cell : none) {
            Due.due("ground of no cell " + cell, x.ground(cell), -1);
            Due.due("near of no cell " + cell, x.near(cell, 0), -1);
            Due.due("near to no cell " + cell, x.near(0, cell), -1);
        }
        for (int a = 0; a < 84; a += 83) {
            for (int b = 0; b < 84; b++) {
                Due.due("near " + a + " " + b, x.near(a, b), a == 0 ? b % 12 + b / 12 : 17 - b % 12 - b / 12);
            }
        }
        Due.due("near across", x.near(11, 72), 17);
        Due.due("near of rows' ends", x.near(23, 24), 12);
        Due.due("near, columns alone", x.near(40, 43), 3);
        Due.due("near, rows alone", x.near(4, 76), 6);
    }

    /** "these four CELLS are PATH always". */
    private static void fourCellsArePathAlways() {
        String[] kept = {"b3", "k3", "a0", "l6"};
        for (String cell : kept) {
            for (int ground = 0; ground <= 3; ground++) {
                TwoFlags x = new TwoFlags();
                Due.due("ground " + ground + " of " + cell, Due.read(x, "g" + ground + cell + ";"), ground == 0 ? 1 : -2000);
                Due.due("it is path still", x.ground(Due.at(cell)), 0);
            }
        }
        // boxes that have one of them at an end, and boxes that end beside it
        String[] with = {"a0a6", "a0l0", "l0l6", "a6l6", "b0b3", "b3b6", "b3j3", "c3k3", "k0k3", "k3k6", "a3b3", "k3l3"};
        String[] beside = {"a1a6", "b0l0", "l0l5", "a6k6", "b0b2", "b4b6", "c3j3", "a3a3", "k0k2", "k4k6", "l3l3"};
        for (String box : with) {
            for (int ground = 1; ground <= 3; ground++) {
                Due.due("box " + box, Due.read(new TwoFlags(), "g" + ground + box + ";"), -2000);
            }
            Due.due("box of path " + box, Due.read(new TwoFlags(), "g0" + box + ";"), 1);
        }
        for (String box : beside) {
            for (int ground = 1; ground <= 3; ground++) {
                Due.due("box " + box, Due.read(new TwoFlags(), "g" + ground + box + ";"), 1);
            }
        }
    }

    private static void rulesAtFirst() {
        TwoFlags x = new TwoFlags();
        int[] first = {1, 0, 100, 0, 0, 200};
        for (int what = 0; what < 6; what++) {
            Due.due("rule " + what + " at first", x.rule(what), first[what]);
        }
        int[] none = {-1, 6, Integer.MIN_VALUE, Integer.MAX_VALUE};
        for (int what : none) {
            Due.due("no rule " + what, x.rule(what), -1);
        }
        // the least and the most of each, told by texts
        Due.due("the least", Due.read(x, "r0;e0;t0;f0;l0;h10;"), 6);
        int[] least = {0, 0, 0, 0, 0, 10};
        for (int what = 0; what < 6; what++) {
            Due.due("least of rule " + what, x.rule(what), least[what]);
        }
        Due.due("the most", Due.read(x, "r3;e1;t100;f1;l1;h600;"), 6);
        int[] most = {3, 1, 100, 1, 1, 600};
        for (int what = 0; what < 6; what++) {
            Due.due("most of rule " + what, x.rule(what), most[what]);
        }
    }

    /** "SIDE 0 has COLUMNS 0 .. 5, SIDE 1 6 .. 11"; a HOME is "on its own SIDE, no THICKET, not in its own RING". */
    private static void homesBySidesAndRings() {
        for (int ring = 0; ring <= 3; ring++) {
            for (int cell = 0; cell < 84; cell++) {
                for (int side = 0; side < 2; side++) {
                    int near = Math.abs(cell % 12 - FLAGS[side] % 12) + Math.abs(cell / 12 - FLAGS[side] / 12);
                    boolean well = (cell % 12 < 6) == (side == 0) && near > ring;
                    String text = "r" + ring + ";p" + side + "00" + Due.named(cell) + ";";
                    Due.due("home by " + text, Due.read(new TwoFlags(), text), well ? 2 : -2003);
                    // and the same the other way about: the ring around a home that is there
                    if (near > 0 && (cell % 12 < 6) == (side == 0)) {
                        text = "r0;p" + side + "00" + Due.named(cell) + ";r" + ring + ";";
                        Due.due("ring by " + text, Due.read(new TwoFlags(), text), well ? 3 : -2010);
                    }
                }
            }
        }
        String[] grounds = {"g0d4;", "g1d4;", "g2d4;", "g3d4;"};
        for (int ground = 0; ground < 4; ground++) {
            Due.due("home on ground " + ground, Due.read(new TwoFlags(), grounds[ground] + "p000d4;"), ground == 3 ? -2005 : 2);
            Due.due("ground " + ground + " on home", Due.read(new TwoFlags(), "p000d4;" + grounds[ground]), ground == 3 ? -2007 : 2);
        }
        // gaols are well as homes, of their own side alone
        Due.due("its own gaol", Due.read(new TwoFlags(), "p000a0;p100l6;"), 2);
        Due.due("the other's gaol", Due.read(new TwoFlags(), "p000l6;"), -2000);
        Due.due("the other's gaol", Due.read(new TwoFlags(), "p100a0;"), -2000);
        // it is at its home at first, two may be on one cell
        TwoFlags x = Due.wood("p000d4;p059d4;");
        for (int player = 0; player < 2; player++) {
            Due.due("its home", x.player(player, 3), Due.at("d4"));
            Due.due("where it is at first", x.player(player, 4), Due.at("d4"));
        }
    }

    /** "PLAYERS 0 .. 9 as they come", "FIGURE (0 .. 9)". */
    private static void tenPlayers() {
        TwoFlags x = new TwoFlags();
        for (int i = 0; i < 10; i++) {
            Due.due("no player " + i + " yet", x.player(i, 0), -1);
            int side = i / 3 % 2;
            Due.due("player " + i, Due.read(x, "p" + side + i % 8 + i + (side == 0 ? "f" : "g") + i % 7 + ";"), 1);
            Due.due("how many", x.count(0), i + 1);
        }
        Due.due("no eleventh one", Due.read(x, "p000f0;"), -2000);
        Due.due("no eleventh one", x.count(0), 10);
        Due.due("no player 10", x.player(10, 0), -1);
        for (int i = 0; i < 10; i++) {
            int side = i / 3 % 2;
            Due.due("side of " + i, x.player(i, 0), side);
            Due.due("kind of " + i, x.player(i, 1), i % 8);
            Due.due("figure of " + i, x.player(i, 2), i);
            Due.due("home of " + i, x.player(i, 3), Due.cell(5 + side, i % 7));
        }
        Due.due("those of side 0", x.count(1), 6);
    }

    /** "one sees a CELL that is as NEAR as 4 or nearer". */
    private static void seesAsNearAs4() {
        TwoFlags x = Due.wood("g2a4l4;g3a2e2;p000f3;p100g0;");
        for (int cell = 0; cell < 84; cell++) {
            int near = Math.abs(cell % 12 - 5) + Math.abs(cell / 12 - 3);
            Due.due("sees " + cell + ", as near as " + near, x.sees(0, cell), near <= 4 ? 1 : 0);
            near = Math.abs(cell % 12 - 6) + cell / 12;
            Due.due("the other sees " + cell + ", as near as " + near, x.sees(1, cell), near <= 4 ? 1 : 0);
        }
    }

    /** "into FERN as NEAR as 1 or nearer". */
    private static void seesIntoFern() {
        TwoFlags x = Due.wood("g1c0j6;p000f3;");
        for (int column = 2; column <= 9; column++) {
            for (int row = 0; row < 7; row++) {
                int near = Math.abs(column - 5) + Math.abs(row - 3);
                Due.due("into fern as near as " + near, x.sees(0, Due.cell(column, row)), near <= 1 ? 1 : 0);
            }
        }
        Due.due("out of fern, path as near as 4", x.sees(0, Due.at("b3")), 1);
        Due.due("out of fern, path as near as 5", x.sees(0, Due.at("b2")), 0);
    }

    /**
     * Guards "whom it SEES": 0 guards, and its turn is ahead of 1's, who comes to g0 in the first second; its goal is asked
     * behind that.
     */
    private static void guardsSeeWhomTheyGoTo() {
        goalLater("as near as 4", "t0;p119i2;p000f0;", 1, 0, "g0");
        goalLater("as near as 5", "t0;p119j2;p000f0;", 1, 0, "j2");
        goalLater("in fern, as near as 1", "t0;g1g0;p119g1;p000f0;", 1, 0, "g0");
        goalLater("in fern, as near as 2", "t0;g1g0;p119h1;p000f0;", 1, 0, "h1");
        goalLater("in brook, as near as 4", "t0;g2g0;p119i2;p000f0;", 1, 0, "g0");
    }

    /** Guards "as NEAR to its HOME as FIGURE and 1, or nearer". */
    private static void guardsByFigureAnd1() {
        String[] homes = {"g0", "h0", "i0", "i1", "j1"};
        for (int near = 1; near < homes.length; near++) {
            for (int figure = 0; figure <= 9; figure++) {
                String text = "t0;p11" + figure + homes[near] + ";p000f0;";
                boolean sees = near <= 4;
                goalLater("as near to its home as " + near, text, 1, 0, sees && near <= figure + 1 ? "g0" : homes[near]);
            }
        }
    }

    /** Guards go to one "on its own half" alone. */
    private static void guardsOnTheirOwnHalf() {
        goal("side 1, the other on f", "p119g3;p000f3;", 0, "g3");
        goal("side 0, the other on g", "p019f3;p100g3;", 0, "f3");
        goalLater("side 1, the other on g", "t0;p119h4;p000f3;", 1, 0, "g3");
        goalLater("side 0, the other on f", "t0;p019e4;p100g3;", 1, 0, "f3");
        // one of its own side there is none to go to
        goal("its own side", "p119g3;p100h3;", 0, "g3");
    }

    /** "the FREE one nearest to itself", "of several the least number". */
    private static void guardsToTheNearest() {
        // 0 rings at i3 by then, with its home at i6: 1 at g5 is nearer to its home, 2 at g3 nearer to itself
        String text = "t0;p179i6;p000d5;p000d3;";
        TwoFlags x = Due.wood(text);
        x.go(3);
        Due.due("0 at its post", x.player(0, 4), Due.at("i3"));
        Due.due("1 there", x.player(1, 4), Due.at("g5"));
        Due.due("2 there", x.player(2, 4), Due.at("g3"));
        Due.due("to the one nearest to itself", x.player(0, 8), Due.at("g3"));
        goalLater("as near: the least number", "t0;p119g3;p000f4;p000f2;", 1, 0, "g4");
        goalLater("as near: the least number", "t0;p119g3;p000f2;p000f4;", 1, 0, "g2");
        // who is held is at (11, 6), and gone after by nobody
        x = Due.wood("p119h3;p159l5;p000f3;");
        x.go(1);
        x.go(1);
        Due.due("2 is held", x.player(2, 5), 1);
        Due.due("none: its home", x.player(0, 8), Due.at("h3"));
        Due.due("none, though it is at its gaol", x.player(1, 8), Due.at("l6"));
    }

    /** Gaoling: "its own GAOL in place of HOME (each time)". */
    private static void gaolingByItsGaolEachTime() {
        // 1 comes to g1, as near to (11, 6) as 10; 0 is at i2 by then
        goalLater("as near to its gaol as 10", "t0;p159i1;p000f1;", 1, 0, "g1");
        goalLater("by a figure less", "t0;p158i1;p000f1;", 1, 0, "l6");
        goalLater("side 0: as near to its gaol as 10", "t0;p059d5;p100g5;", 1, 0, "f5");
        goalLater("side 0: by a figure less", "t0;p058d5;p100g5;", 1, 0, "a0");
        goal("with none its gaol", "p159i1;", 0, "l6");
        goal("with none its gaol", "p059d5;", 0, "a0");
        cellLater("it stays there", "p150l5;", 1, 0, "l6");
        cellLater("it stays there", "p150l5;", 2, 0, "l6");
    }

    /** Ringing: "as a GUARDING one; with none (3, 3) for SIDE 0, (8, 3) for SIDE 1". */
    private static void ringingByItsHome() {
        // 0 is at its post i3 by then, its home l0; 1 at g5 is as near to that home as 10
        goalLater("as near to its home as 10", "t0;p179l0;p000a5;", 6, 0, "g5");
        goalLater("by a figure less", "t0;p178l0;p000a5;", 6, 0, "i3");
        goalLater("side 0: as near to its home as 10", "t0;p079a6;p100l1;", 6, 0, "f1");
        goalLater("side 0: by a figure less", "t0;p078a6;p100l1;", 6, 0, "d3");
        cellLater("it stays at its post", "p070d4;", 1, 0, "d3");
        cellLater("it stays at its post", "p070d4;", 9, 0, "d3");
        // a ring of 2 has (3, 3) and (8, 3) in it, and is not gone into
        cellLater("its post is in its ring", "r2;p070e3;", 9, 0, "e3");
        cellLater("its post is in its ring", "r2;p170h3;", 9, 0, "h3");
        cellLater("its post is not in its ring", "r1;p170h3;", 9, 0, "i3");
    }

    /** Creeping: "as NEAR as FIGURE by 2, cut, or nearer to the CELL to which it would go next". */
    private static void creepingByFigureHalved() {
        // the next cell is g3; the other is so near to it
        String[] others = {"g3", "h3", "i3", "i4", "i5", "j5"};
        for (int near = 0; near < others.length; near++) {
            for (int figure = 0; figure <= 9; figure++) {
                String text = "p02" + figure + "f3;p110" + others[near] + ";";
                goal("as near as " + near, text, 0, near <= figure / 2 ? "f3" : "k3");
                text = "p110" + others[near] + ";p02" + figure + "f3;";
                goal("the other told first", text, 1, near <= figure / 2 ? "f3" : "k3");
            }
        }
        cellLater("it stays", "p029f3;p110g5;", 5, 0, "f3");
    }

    private static void creepingByTheNextCell() {
        // g0 is shut: next is f1, to which h0 is as near as 3 (to f0 as 2)
        goal("by the cell next, not its own", "g3g0;p024f0;p110h0;", 0, "k3");
        goal("by the cell next", "g3g0;p026f0;p110h0;", 0, "f0");
        // no way: it would stay, and h3 is as near to that cell as 2
        goal("it would stay", "g3g3;p024f3;p110h3;", 0, "f3");
        goal("it would stay, by less", "g3g3;p023f3;p110h3;", 0, "k3");
    }

    /** Drawing: "as NEAR to it as FIGURE or nearer", "as long as that is so its HOME (asked anew each time)". */
    private static void drawingByFigure() {
        // at f3 the other at i4 is as near as 4, at g3 as 3
        goalLater("as near as 4, by 3", "t0;p033e3;p110i4;", 1, 0, "k3");
        goalLater("as near as 3, by 3", "t0;p033e3;p110i4;", 2, 0, "e3");
        goalLater("as near as 4, by 4", "t0;p034e3;p110i4;", 1, 0, "e3");
        goalLater("as near as 5, by 4", "t0;p034e3;p110i4;", 0, 0, "k3");
        // home again, and from there anew
        cellLater("it went home", "t0;p033e3;p110i4;", 3, 0, "f3");
        goalLater("asked anew", "t0;p033e3;p110i4;", 3, 0, "k3");
        cellLater("it goes again", "t0;p033e3;p110i4;", 4, 0, "g3");
        // figure 0: on its own cell alone; a creeping one by 0: on the next cell
        goalLater("figure 0, as near as 1", "t0;p110g4;p030f3;", 1, 1, "k3");
        goal("figure 0, who is on the next cell", "p030f3;p110g3;", 0, "f3");
        goal("figure 9, as near as 9", "p039e3;p110l1;", 0, "e3");
        goal("figure 8, as near as 9", "p038e3;p110l1;", 0, "k3");
    }

    /** "some FREE one of the other SIDE, on that one's own half". */
    private static void creepingAndDrawingByWhoIsFree() {
        // 1 came over to f3; 0 at d3 is nearer to it than its figure
        String[] kinds = {"029", "039"};
        for (String kind : kinds) {
            goal("on its own half", "t0;p" + kind + "d4;p100g4;", 0, "d4");
            goalLater("over", "t0;p" + kind + "d4;p100g4;", 1, 0, "k3");
            goal("its own side does not matter", "p" + kind + "d4;p000d3;", 0, "k3");
        }
        // 1 is held at (0, 0), at which 0 creeps and draws as if nobody were there
        for (String kind : kinds) {
            TwoFlags x = Due.wood("p010f4;p" + kind + "d5;p100g4;");
            x.go(1);
            Due.due("2 is held", x.player(2, 5), 1);
            Due.due("goal with 2 held", x.player(1, 8), Due.at("k3"));
        }
    }

    /** Who has not come is nowhere: alone, one creeps, draws and guards as if (0, 0) and (11, 6) were empty. */
    private static void nobodyElseIsThere() {
        int[] kinds = {0, 2, 3, 4, 6};
        for (int kind : kinds) {
            cellLater("alone", "p1" + kind + "9g3;", 5, 0, "b3");
            cellLater("alone", "p0" + kind + "9f3;", 5, 0, "k3");
            cellLater("alone, by its own gaol", "r0;p0" + kind + "9a0;", 1, 0, "b0");
        }
        goal("a guard beside (0, 0)", "p019a1;", 0, "a1");
        goal("a guard beside (11, 6)", "p119l5;", 0, "l5");
        Due.due("worth with nobody there", new TwoFlags().worth(0), 0);
        Due.due("worth with nobody there", new TwoFlags().worth(1), 0);
        TwoFlags x = Due.wood("p119l5;");
        Due.due("a way by nobody", x.wayIn(12, 0, 0, 0), 0);
    }

    /** Freeing: "the other SIDE's GAOL, if one of its own is HELD; else as a RUNNING one". */
    private static void freeingIfOneIsHeld() {
        goal("none is held", "p060e6;p160h6;", 0, "k3");
        goal("none is held", "p060e6;p160h6;", 1, "b3");
        // 2 of side 0 is held at once, of side 1 none
        TwoFlags x = Due.wood("p060e6;p160h0;p000f3;p110g3;");
        x.go(1);
        Due.due("one of side 0 is held", x.player(2, 5), 1);
        Due.due("side 0 frees", x.player(0, 8), Due.at("l6"));
        Due.due("side 1 runs", x.player(1, 8), Due.at("b3"));
        x = Due.wood("p060e6;p160h0;p010f3;p100g3;");
        x.go(1);
        Due.due("one of side 1 is held", x.player(3, 5), 1);
        Due.due("side 1 frees", x.player(1, 8), Due.at("a0"));
        Due.due("side 0 runs", x.player(0, 8), Due.at("k3"));
    }

    /** "who has a FLAG goes to its own HOME CELL, whatever its KIND". */
    private static void whoHasAFlagWhateverItsKind() {
        for (int kind = 0; kind < 8; kind++) {
            // 2 is held, 3 guards about, so that each kind would have another goal
            TwoFlags x = Due.wood("t0;p000f1;p119g4;p000e4;");
            x.go(7);
            Due.due("0 has it", x.player(0, 6), 1);
            x.keep(0, 1, kind, 9);
            x.role(0, 0);
            Due.due("goal of kind " + kind + " with a flag", x.player(0, 8), Due.at("f1"));
            x.anew();
            Due.due("goal of kind " + kind + " without", x.player(0, 8) == Due.at("f1") ? 1 : 0,
                kind == 1 || kind == 2 || kind == 3 ? 1 : 0);
        }
    }

    /** "the other SIDE's FLAG, where that is now": carried, it is where its carrier is. */
    private static void flagsWhereTheyAreNow() {
        TwoFlags x = Due.wood("p000f3;p000f6;p040f0;");
        Due.due("at first", x.player(1, 8), Due.at("k3"));
        x.go(6);
        Due.due("0 has it", x.flag(1, 1), 0);
        Due.due("carried", x.flag(1, 0), Due.at("j3"));
        Due.due("a player goes there", x.player(1, 8), Due.at("j3"));
        Due.due("a running one goes there", x.player(2, 8), Due.at("j3"));
        x.go(1);
        Due.due("carried on", x.player(1, 8), Due.at("i3"));
    }

    /** "along the columns, if more columns than rows are between (or as many), else along the rows". */
    private static void stepsAlongColumnsOrRows() {
        // guards go home from nowhere, so ringing ones: to d3
        cellLater("more columns", "p070f4;", 1, 0, "e4");
        cellLater("as many", "p070e4;", 1, 0, "d4");
        cellLater("more rows", "p070e5;", 1, 0, "e4");
        cellLater("columns alone", "p070f3;", 1, 0, "e3");
        cellLater("rows alone", "p070d6;", 1, 0, "d5");
        cellLater("the other way about, more columns", "r0;p070a2;", 1, 0, "b2");
        cellLater("the other way about, as many", "r0;p070b1;", 1, 0, "c1");
        cellLater("the other way about, more rows", "r0;p070c1;", 1, 0, "c2");
        cellLater("upward", "p070d0;", 1, 0, "d1");
        cellLater("at the goal it stays", "p010d3;", 1, 0, "d3");
    }

    /** "if that CELL can't be entered the other way of both (if something is between that way); else .. it stays". */
    private static void stepsTheOtherWay() {
        cellLater("columns shut: rows", "g3e4;p070f4;", 1, 0, "f3");
        cellLater("rows shut: columns", "g3e4;p070e5;", 1, 0, "d5");
        cellLater("as many, columns shut: rows", "g3d4;p070e4;", 1, 0, "e3");
        cellLater("columns shut, no rows between", "g3e3;p070f3;", 1, 0, "f3");
        cellLater("rows shut, no columns between", "g3d5;p070d6;", 1, 0, "d6");
        cellLater("both shut", "g3e4;g3f3;p070f4;", 1, 0, "f4");
        cellLater("both shut, more rows", "g3e4;g3d5;p070e5;", 1, 0, "e5");
        // shut in at the wood's ends: it stays, whatever is behind the end
        cellLater("shut in at the end", "g3k0;g3l1;p100l0;", 3, 0, "l0");
        cellLater("shut in at the end", "g3b6;g3a5;p000a6;", 3, 0, "a6");
    }

    /** "Entered can't be: .. CELLS of its own RING (from outside it)". */
    private static void stepsNotIntoTheOwnRing() {
        cellLater("ring 2: both ways are in it", "r2;p000a1;", 1, 0, "a1");
        cellLater("ring 1: b1 is not in it", "r1;p000a1;", 1, 0, "b1");
        cellLater("ring 3: both ways are in it", "r3;p000a0;", 1, 0, "a0");
        cellLater("ring 2: b0 is not in it", "r2;p000a0;", 1, 0, "b0");
        cellLater("ring 1: b2 is in it, the other way too", "r1;p000a2;", 1, 0, "a2");
        cellLater("ring 0: b3 is in it", "r0;p000a3;", 1, 0, "a3");
        cellLater("ring 0: b2 is not in it", "r0;p000a2;", 1, 0, "b2");
        cellLater("side 1, ring 2", "r2;p100l5;", 1, 0, "l5");
        cellLater("side 1, ring 1", "r1;p100l5;", 1, 0, "k5");
        cellLater("side 1, ring 0", "r0;p100l3;", 1, 0, "l3");
        // the ring of the other side does not matter
        cellLater("the other's ring", "r3;p000f3;", 5, 0, "k3");
        cellLater("the other's ring", "r3;p100g3;", 5, 0, "b3");
        // along its ring: the way that is open
        cellLater("columns in the ring: rows", "r1;p070a2;", 1, 0, "a2");
        cellLater("c4 is not in the ring of 1", "r1;p070b5;", 1, 0, "c5");
    }

    /** "Into BROOK it takes a SECOND more: it stays there the next SECOND". */
    private static void brookTakesASecondMore() {
        String text = "g2f3g3;p000e3;";
        String[] cells = {"e3", "f3", "f3", "g3", "g3", "h3", "i3"};
        int[] left = {0, 1, 0, 1, 0, 0, 0};
        TwoFlags x = Due.wood(text);
        for (int second = 0; second < cells.length; second++) {
            Due.due("cell at " + second, x.player(0, 4), Due.at(cells[second]));
            Due.due("seconds left at " + second, x.player(0, 7), left[second]);
            x.go(1);
        }
        // who stays in brook, or begins in it, has none
        x = Due.wood("g2d3;p070d4;p010d3;");
        x.go(1);
        Due.due("into brook", x.player(0, 7), 1);
        Due.due("in brook at first", x.player(1, 7), 0);
        x.go(3);
        Due.due("it stays in brook", x.player(0, 4), Due.at("d3"));
        Due.due("and has none left", x.player(0, 7), 0);
        cellLater("out of a home in brook at once", "g2f3;p000f3;", 1, 0, "g3");
    }
}
