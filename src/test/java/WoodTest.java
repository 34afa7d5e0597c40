/** Promises 1 to 9: a new object, texts, ground, rules, players, roles, what is seen, flags, near. */
public final class WoodTest {
    public static void main(String[] args) {
        newObject();
        shapeOfTexts();
        statementsThatCannotBe();
        homesRingsAndGround();
        roomForPlayersAndPlans();
        textsOnShelves();
        textsLater();
        groundAndRules();
        players();
        plans();
        roles();
        seeing();
        flags();
        near();
        Due.end();
    }

    private static void newObject() {
        TwoFlags x = new TwoFlags();
        for (int what = 0; what <= 5; what++) {
            Due.due("1 count " + what, x.count(what), 0);
        }
        for (int cell = 0; cell < 84; cell++) {
            Due.due("1 ground " + cell, x.ground(cell), 0);
        }
        int[] rules = {1, 0, 100, 0, 0, 200};
        int[] states = {0, 2, 0, 0, 0, -4};
        for (int what = 0; what < 6; what++) {
            Due.due("1 rule " + what, x.rule(what), rules[what]);
            Due.due("1 state " + what, x.state(what), states[what]);
        }
        for (int d = 0; d < 8; d++) {
            Due.due("1 shelf " + d, x.counts(d), -11);
        }
        Due.due("1 player", x.player(0, 0), -1);
        Due.due("1 image", x.restore(), -3);
        Due.due("1 z", x.seed(5), 1);
    }

    private static void text(String text, int want) {
        Due.due("2 text '" + text + "'", Due.read(new TwoFlags(), text), want);
    }

    private static void shapeOfTexts() {
        text("", -1000);
        text("x;", -1000);
        text(";", -1000);
        text("g", -1001);
        text("ga0;", -1001);
        text("g1", -1002);
        text("g1m0;", -1002);
        text("g1A0;", -1002);
        text("g1a7;", -1003);
        text("g1a0", -1004);
        text("g1a01;", -1004);
        text("g1a0m0;", -1004);
        text("g1b0a;", -1005);
        text("g1b0a7;", -1005);
        text("g1b0b1", -1006);
        text("g1b0b1c1;", -1006);
        text("g1b0;", 1);
        text("g1b0b1;", 1);
        text("r", -1001);
        text("r;", -1001);
        text("r11;", -1002);
        text("e", -1001);
        text("f/;", -1001);
        text("l:;", -1001);
        text("t;", -1001);
        text("t00;", -1002);
        text("t01;", -1002);
        text("h0100;", -1002);
        text("t0;", 1);
        text("h1000;", -1004);
        text("t100", -1004);
        text("h10;", 1);
        text("p0", -1002);
        text("p000m0;", -1004);
        text("p000a7;", -1005);
        text("p000a0", -1006);
        text("p000a00;", -1006);
        text("c0110", -1005);
        text("c01101;", -1005);
        text("c011a;", -1004);
        text("r1;r1", -1005);
        text("r1;;", -1003);
        text("r1; r1;", -1003);
        // the longest row: 100 bytes that end too early, and 99 that do not
        text("e1;".repeat(33) + "e", -1100);
        text("e1;".repeat(33), 33);
        text("e1;".repeat(32) + "t10;", 33);
        // kind 1, of any place, goes ahead of kind 2
        text("r9;r1;x", -1006);
        text("r9;t5", -1005);
        // the lowest bits of a byte above 127 are below 0, and stand nowhere
        TwoFlags x = new TwoFlags();
        Due.fill(x, 7, 0, 'r', '1' + 128, ';');
        Due.due("2 text with a byte below 0", x.text(7), -1001);
        Due.fill(x, 7, 0, 'r', '1' + 256, ';');
        Due.due("2 text with lowest bits", x.text(7), 1);
    }

    private static void statementsThatCannotBe() {
        text("g4b0;", -2000);
        text("g9b0;", -2000);
        text("g3b0;", 1);
        text("r3;", 1);
        text("r4;", -2000);
        text("e1;", 1);
        text("e2;", -2000);
        text("f1;", 1);
        text("f2;", -2000);
        text("l1;", 1);
        text("l2;", -2000);
        text("t100;", 1);
        text("t101;", -2000);
        text("t999;", -2000);
        text("h9;", -2000);
        text("h0;", -2000);
        text("h600;", 1);
        text("h601;", -2000);
        text("p200b1;", -2000);
        text("p079b1;", 1);
        text("p080b1;", -2000);
        text("c0170;", 1);
        text("c1999;", -2000);
        text("c1979;", 1);
        text("c2110;", -2000);
        text("c0010;", -2000);
        text("c0180;", -2000);
        text("r1;e1;r9;e9;", -2006);
    }

    private static void homesRingsAndGround() {
        int[] kept = {37, 46, 0, 83};
        for (int cell : kept) {
            String at = (char) ('a' + cell % 12) + "" + cell / 12;
            for (int ground = 1; ground <= 3; ground++) {
                text("g" + ground + at + ";", -2000);
            }
            text("g0" + at + ";", 1);
        }
        text("g0a0l6;", 1);
        text("g1a0l6;", -2000);
        text("g1k3k3;", -2000);
        text("g1l2j4;", -2000);
        text("p000f3;", 1);
        text("p000g3;", -2000);
        text("p100g3;", 1);
        text("p100f3;", -2000);
        text("p000a0;", 1);
        text("p100l6;", 1);
        // ring 1: as near as 1 to the own flag's place
        text("p000b2;", -2000);
        text("p000c3;", -2000);
        text("p000b3;", -2000);
        text("p000c2;", 1);
        text("p100k2;", -2000);
        text("p100j3;", -2000);
        text("p100j2;", 1);
        text("r0;p000b2;", 2);
        text("r0;p000b3;", -2003);
        text("r0;p000b2;r1;", -2010);
        text("r0;p100k2;r1;", -2010);
        text("r3;p000e3;", -2003);
        text("p000e3;r3;", -2007);
        text("p000e3;r2;", 2);
        text("p000f3;r3;", 2);
        text("g3b1;p000b1;", -2005);
        text("p000b1;g3b1;", -2007);
        text("p000b1;g3a1c1;", -2007);
        text("g3b1;g0b1;p000b1;", 3);
        text("g2b1;p000b1;g1b1;", 3);
    }

    private static void roomForPlayersAndPlans() {
        TwoFlags x = new TwoFlags();
        for (int i = 0; i < 10; i++) {
            Due.due("2 player " + i, Due.read(x, i % 2 == 0 ? "p000f3;" : "p100g3;"), 1);
        }
        Due.due("2 an eleventh player", Due.read(x, "e1;p000f3;"), -2003);
        Due.due("2 nothing of it comes", x.rule(1), 0);
        Due.due("32 players", x.count(0), 10);
        Due.due("32 those of side 0", x.count(1), 5);
        Due.due("2 plans", Due.read(x, "c0110;c1110;c0120;"), 3);
        Due.due("2 a third plan of a side", Due.read(x, "c0110;"), -2000);
        Due.due("2 the second one of the other side", Due.read(x, "c1120;c1110;"), -2006);
        Due.due("32 plans", x.count(2), 3);
        Due.due("2 the fourth plan", Due.read(x, "c1120;"), 1);
        Due.due("32 plans", x.count(2), 4);
        Due.due("2 ground and ring with ten players", Due.read(x, "g3b0;r2;"), 2);
        Due.due("2 ground under ten players", Due.read(x, "g3g3;"), -2000);
    }

    private static void textsOnShelves() {
        TwoFlags x = new TwoFlags();
        Due.due("2 shelf -1", x.text(-1), -1);
        Due.due("2 shelf 8", x.text(8), -1);
        Due.due("2 nothing", x.text(0), -11);
        x.keep(0, 1, 0, 0);
        Due.due("2 a role", x.text(0), -12);
        Due.fill(x, 0, 1, 'e', '1', ';');
        Due.due("2 shorts", x.text(0), -12);
        Due.fill(x, 0, 2, 'e', '1', ';');
        Due.due("2 ints", x.text(0), -12);
        Due.fill(x, 0, 0, 'e', '1', ';');
        Due.due("2 bytes", x.text(0), 1);
        Due.due("2 the row stays", x.element(0, 0), 'e');
    }

    private static void textsLater() {
        TwoFlags x = Due.wood("p000f3;");
        x.go(1);
        Due.due("2 ground later", Due.read(x, "g0b1;"), -2000);
        Due.due("2 ring later", Due.read(x, "r1;"), -2000);
        Due.due("2 player later", Due.read(x, "p000f3;"), -2000);
        Due.due("2 the others later", Due.read(x, "e1;f1;l1;t7;h77;c0110;"), 6);
        Due.due("2 the place of what is later", Due.read(x, "e0;g0b1;"), -2003);
        Due.due("2 reach as it came", x.rule(1), 1);
        x.anew();
        Due.due("2 all again", Due.read(x, "g1b1;r2;p000f3;"), 3);
    }

    private static void groundAndRules() {
        TwoFlags x = Due.wood("g1d2b1;g2c2;g3l0;r0;e1;t7;f1;l1;h33;");
        int fern = 0;
        for (int cell = 0; cell < 84; cell++) {
            fern += x.ground(cell) == 1 ? 1 : 0;
        }
        Due.due("3 fern", fern, 5);
        Due.due("3 corner", x.ground(Due.cell(1, 1)), 1);
        Due.due("3 corner", x.ground(Due.cell(3, 2)), 1);
        Due.due("3 brook", x.ground(Due.cell(2, 2)), 2);
        Due.due("3 thicket", x.ground(11), 3);
        Due.due("32 fern", x.count(3), 5);
        Due.due("32 brook", x.count(4), 1);
        Due.due("32 thicket", x.count(5), 1);
        Due.due("32 others", x.count(6), -1);
        Due.due("32 others", x.count(-1), -1);
        Due.due("3 no cell", x.ground(-1), -1);
        Due.due("3 no cell", x.ground(84), -1);
        int[] rules = {0, 1, 7, 1, 1, 33};
        for (int what = 0; what < 6; what++) {
            Due.due("4 rule " + what, x.rule(what), rules[what]);
        }
        Due.due("4 no rule", x.rule(-1), -1);
        Due.due("4 no rule", x.rule(6), -1);
    }

    private static void players() {
        TwoFlags x = Due.wood("g2f3;p027e3;p153l4;");
        int[][] want = {{0, 2, 7, 40, 40, 0, 0, 0, 46}, {1, 5, 3, 59, 59, 0, 0, 0, 83}};
        for (int player = 0; player < 2; player++) {
            for (int what = 0; what < 9; what++) {
                Due.due("5 player " + player + " " + what, x.player(player, what), want[player][what]);
            }
        }
        x.go(1);
        Due.due("5 its cell", x.player(0, 4), 41);
        Due.due("5 a second in brook", x.player(0, 7), 1);
        Due.due("5 its home stays", x.player(0, 3), 40);
        Due.due("5 no player", x.player(2, 0), -1);
        Due.due("5 no player", x.player(-1, 0), -1);
        Due.due("5 no what", x.player(0, 9), -1);
        Due.due("5 no what", x.player(0, -1), -1);
    }

    private static void plans() {
        // 0 and 1 run along row 3 into the guard 2 (at g3) one behind the other
        TwoFlags x = Due.wood("p045f3;p046d3;p065a6;p110g3;c0163;c0227;");
        Due.due("5 kind of its own", x.player(0, 1), 4);
        Due.due("5 figure of its own", x.player(1, 2), 6);
        x.go(1);
        Due.due("5 held", x.player(0, 5), 1);
        Due.due("5 kind by the plan of 1", x.player(1, 1), 6);
        Due.due("5 figure by the plan of 1", x.player(1, 2), 3);
        Due.due("5 of the held one too", x.player(0, 1), 6);
        Due.due("5 a freeing one keeps its own", x.player(2, 2), 5);
        Due.due("5 goal by the plan", x.player(1, 8), 83);
        Due.due("5 goal of who is held", x.player(0, 8), -4);
        x.keep(0, 1, 4, 1);
        x.go(2);
        Due.due("5 two are held", x.player(1, 5), 1);
        Due.due("5 kind by the plan told later", x.player(1, 1), 2);
        Due.due("5 figure by the plan told later", x.player(1, 2), 7);
        Due.due("6 role of one under a plan", x.role(0, 0), 4);
        Due.due("6 kind by the plan still", x.player(0, 1), 2);
        x.anew();
        Due.due("5 none held: its own", x.player(0, 1), 4);
        Due.due("5 none held: its own figure", x.player(0, 2), 1);
        // of two that count the one told later, though it asks for fewer
        x = Due.wood("p045f3;p046d3;p110g3;c0227;c0163;");
        x.go(3);
        Due.due("5 two are held", x.state(3), 2);
        Due.due("5 the one told later", x.player(0, 1), 6);
        // the plans of the other side do not matter
        x = Due.wood("p045f3;p110g3;c1163;");
        x.go(1);
        Due.due("5 plan of the other side", x.player(0, 1), 4);
    }

    private static void roles() {
        TwoFlags x = Due.wood("p027e3;");
        x.keep(0, 1, 6, 4);
        Due.due("6 no player", x.role(1, 0), -1);
        Due.due("6 no player", x.role(-1, 0), -1);
        Due.due("6 no shelf", x.role(0, 8), -1);
        Due.due("6 no shelf", x.role(0, -1), -1);
        Due.due("6 nothing", x.role(0, 1), -11);
        x.row(1, 0, 3);
        Due.due("6 a row", x.role(0, 1), -12);
        Due.due("6 it stays", x.player(0, 1), 2);
        Due.due("6 a role", x.role(0, 0), 6);
        Due.due("6 kind", x.player(0, 1), 6);
        Due.due("6 figure", x.player(0, 2), 4);
        Due.due("6 the role stays", x.counts(0), 12);
    }

    private static void seeing() {
        TwoFlags x = Due.wood("g1f2;g1a1;p000e2;p110g3;p000f5;");
        Due.due("7 as near as 4", x.sees(0, Due.cell(0, 2)), 1);
        Due.due("7 as near as 5", x.sees(0, Due.cell(9, 2)), 0);
        Due.due("7 its own cell", x.sees(0, Due.cell(4, 2)), 1);
        Due.due("7 into fern as near as 1", x.sees(0, Due.cell(5, 2)), 1);
        Due.due("7 into fern as near as 2", x.sees(1, Due.cell(5, 2)), 0);
        Due.due("7 path as near as 4", x.sees(0, Due.cell(2, 4)), 1);
        Due.due("7 no player", x.sees(3, 0), -1);
        Due.due("7 no player", x.sees(-1, 0), -1);
        Due.due("7 no cell", x.sees(0, 84), -1);
        Due.due("7 no cell", x.sees(0, -1), -1);
        x = Due.wood("p000f3;p110g3;");
        x.go(1);
        Due.due("7 who is held", x.sees(0, 0), -3);
        Due.due("7 who is held, no cell", x.sees(0, 84), -1);
    }

    private static void flags() {
        TwoFlags x = Due.wood("p000f3;p100g0;");
        Due.due("8 cell", x.flag(0, 0), 37);
        Due.due("8 cell", x.flag(1, 0), 46);
        Due.due("8 nobody", x.flag(0, 1), -4);
        Due.due("8 nobody", x.flag(1, 1), -4);
        x.go(6);
        Due.due("8 carried", x.flag(1, 1), 0);
        Due.due("8 where its carrier is", x.flag(1, 0), 45);
        Due.due("8 the other one", x.flag(0, 0), 37);
        Due.due("8 no side", x.flag(2, 0), -1);
        Due.due("8 no side", x.flag(-1, 0), -1);
        Due.due("8 no what", x.flag(0, 2), -1);
        Due.due("8 no what", x.flag(0, -1), -1);
    }

    private static void near() {
        TwoFlags x = new TwoFlags();
        Due.due("9 itself", x.near(40, 40), 0);
        Due.due("9 columns and rows", x.near(Due.cell(2, 6), Due.cell(7, 4)), 7);
        Due.due("9 rows apart, not cells", x.near(11, 12), 12);
        Due.due("9 farthest", x.near(83, 0), 17);
        Due.due("9 no cell", x.near(-1, 0), -1);
        Due.due("9 no cell", x.near(0, 84), -1);
    }
}
