/** Promises 10 to 14: seconds gone by, the state, anew, the seed, told cells looked at. */
public final class SecondsTest {
    public static void main(String[] args) {
        goesAndWins();
        endsAtTheHour();
        steps();
        rings();
        brooks();
        guarding();
        gaolingAndRinging();
        creeping();
        drawing();
        touches();
        touchesByDraws();
        fallingFlags();
        freeing();
        takingWithoutAStep();
        nobodyActsAnyMore();
        anewAndSeed();
        judging();
        Due.end();
    }

    private static void where(String what, TwoFlags x, int player, int column, int row) {
        Due.due(what, x.player(player, 4), Due.cell(column, row));
    }

    private static void goal(String what, TwoFlags x, int player, int column, int row) {
        Due.due(what, x.player(player, 8), Due.cell(column, row));
    }

    private static void goesAndWins() {
        TwoFlags x = new TwoFlags();
        Due.due("10 nobody", x.go(1), -3);
        Due.due("10 0 seconds, nobody", x.go(0), -1);
        x = Due.wood("p000e3;");
        Due.due("10 0 seconds", x.go(0), -1);
        Due.due("10 101 seconds", x.go(101), -1);
        Due.due("10 5 seconds", x.go(5), 5);
        where("10 beside the flag", x, 0, 9, 3);
        Due.due("11 nobody had it", x.state(5), -4);
        Due.due("10 one more", x.go(1), 6);
        Due.due("10 it has the flag", x.player(0, 6), 1);
        Due.due("11 had it first", x.state(5), 0);
        goal("10 who has it goes home", x, 0, 4, 3);
        Due.due("10 till it ends", x.go(100), 11);
        where("10 on its own half", x, 0, 5, 3);
        int[] states = {11, 0, 1, 0, 0, 0};
        for (int what = 0; what < 6; what++) {
            Due.due("11 state " + what, x.state(what), states[what]);
        }
        Due.due("11 no what", x.state(6), -1);
        Due.due("11 no what", x.state(-1), -1);
        Due.due("10 it ended", x.go(1), -3);
        Due.due("10 it ended, 0 seconds", x.go(0), -1);
        x = Due.wood("p100h3;");
        Due.due("10 side 1 likewise", x.go(100), 11);
        Due.due("11 side 1 has won", x.state(1), 1);
    }

    private static void endsAtTheHour() {
        TwoFlags x = Due.wood("h10;p010f0;");
        Due.due("10 9 seconds", x.go(9), 9);
        Due.due("11 not ended", x.state(2), 0);
        Due.due("10 till the hour", x.go(100), 10);
        Due.due("11 ended", x.state(2), 1);
        Due.due("11 nobody has won", x.state(1), 2);
        Due.due("10 ended", x.go(1), -3);
        x = Due.wood("h600;p010f0;");
        for (int i = 1; i <= 6; i++) {
            Due.due("10 100 seconds", x.go(100), 100 * i);
        }
        Due.due("10 the longest hour", x.go(1), -3);
    }

    private static void steps() {
        TwoFlags x = Due.wood("p000e0;");
        x.go(3);
        where("10 along the columns, as many between", x, 0, 7, 0);
        x.go(1);
        where("10 along the columns, as many rows", x, 0, 8, 0);
        x.go(1);
        where("10 along the rows", x, 0, 8, 1);
        x = Due.wood("g3f3;p000e3;");
        x.go(1);
        where("10 nothing between the other way", x, 0, 4, 3);
        x = Due.wood("g3f2;p000e2;");
        x.go(1);
        where("10 the other way", x, 0, 4, 3);
        x = Due.wood("g3f2;g3e3;p000e2;");
        x.go(1);
        where("10 no way", x, 0, 4, 2);
        // columns between are fewer than rows: (9, 0) to (10, 3), with (9, 1) shut
        x = Due.wood("g3j1;p000e0;");
        x.go(4);
        where("10 on the way", x, 0, 8, 0);
        x.go(1);
        where("10 along the rows", x, 0, 8, 1);
        x = Due.wood("g3i1;p000e0;");
        x.go(5);
        where("10 along the columns where the row is shut", x, 0, 9, 0);
    }

    private static void rings() {
        TwoFlags x = Due.wood("p000a2;");
        x.go(1);
        where("10 into its own ring it does not go", x, 0, 0, 2);
        x = Due.wood("r0;p000a2;");
        x.go(1);
        where("10 a ring of 0", x, 0, 1, 2);
        x = Due.wood("r0;p000a3;");
        x.go(1);
        where("10 the flag's own place", x, 0, 0, 3);
        x = Due.wood("r3;p000f3;");
        x.go(4);
        where("10 into the other's ring it goes", x, 0, 9, 3);
    }

    private static void brooks() {
        TwoFlags x = Due.wood("g2f3;p000e3;");
        x.go(1);
        where("10 into brook", x, 0, 5, 3);
        Due.due("10 a second more", x.player(0, 7), 1);
        x.go(1);
        where("10 it stays", x, 0, 5, 3);
        Due.due("10 none is left", x.player(0, 7), 0);
        x.go(1);
        where("10 it goes on", x, 0, 6, 3);
        // a home of brook takes nothing more
        x = Due.wood("g2e3;p000e3;");
        x.go(1);
        where("10 out of brook", x, 0, 5, 3);
        // in brook it is touched and touches (at its own turn) nevertheless
        x = Due.wood("g2g3;t0;p000f3;p110h0;");
        x.go(1);
        Due.due("10 in brook on the other half", x.player(0, 7), 1);
        x = Due.wood("g2g3;p000f3;p110g4;");
        x.go(1);
        Due.due("10 who is held has none left", x.player(0, 7), 0);
        Due.due("10 held out of brook", x.player(0, 5), 1);
        where("10 at the other's gaol", x, 0, 11, 6);
        // touched at its own turn while it waits in brook
        x = Due.wood("g2g3;t0;e1;p000f3;p100g3;");
        x.go(1);
        Due.due("10 t 100", Due.read(x, "t100;"), 1);
        x.go(1);
        Due.due("10 touched while it waits, by one on the other half", x.player(0, 5), 1);
        Due.due("10 that one is free", x.player(1, 5), 0);
    }

    private static void guarding() {
        // figure 1: who is as near to its home as 2
        TwoFlags x = Due.wood("t0;p000f1;p111h3;p000f3;");
        goal("5 none on its half", x, 1, 7, 3);
        x.go(1);
        // 0 at (6, 1): as near to (7, 3) as 3; 2 at (6, 3) after 1's turn
        goal("5 the nearest on its half", x, 1, 6, 3);
        x.go(1);
        Due.due("10 it went there", x.near(x.player(1, 4), Due.cell(6, 3)), 0);
        // two as near: the least number
        x = Due.wood("t0;p000f2;p000f4;p113g3;");
        x.go(1);
        goal("5 of several the least number", x, 2, 6, 2);
        // whom it does not see it does not go after
        x = Due.wood("g1g2;t0;p000f2;p119h4;");
        x.go(1);
        where("10 in fern", x, 0, 6, 2);
        goal("5 in fern it is not seen", x, 1, 7, 4);
        x = Due.wood("g0g2;t0;p000f2;p119h4;");
        x.go(1);
        goal("5 on path it is", x, 1, 6, 2);
        // as near to its home as figure and 1, no farther
        x = Due.wood("t0;p000f3;p110h2;");
        x.go(1);
        goal("5 too far from its home", x, 1, 7, 2);
        x = Due.wood("t0;p000f3;p111h2;");
        x.go(1);
        goal("5 near enough to its home", x, 1, 6, 3);
        // on the other half nobody is gone after
        x = Due.wood("p010f3;p100g3;p015e3;");
        goal("5 one on its own half", x, 2, 4, 3);
        // side 1's runner comes onto side 0's half
        x.go(1);
        Due.due("10 touched by side 0", x.player(1, 5), 1);
        where("10 side 1's are held at (0, 0)", x, 1, 0, 0);
        // a free one alone: who is held is not gone after
        x = Due.wood("p059a1;p100g0;");
        x.go(100);
        Due.due("5 held near it", x.player(1, 5), 1);
        goal("5 it goes after nobody held", x, 0, 0, 0);
    }

    private static void gaolingAndRinging() {
        TwoFlags x = Due.wood("p051f1;p071f5;p151g1;p171g5;p019f3;");
        goal("5 gaoling at side 0", x, 0, 0, 0);
        goal("5 ringing at side 0", x, 1, 3, 3);
        goal("5 gaoling at side 1", x, 2, 11, 6);
        goal("5 ringing at side 1", x, 3, 8, 3);
        // as near to its gaol (not its home) as figure and 1: (0, 0) to (3, 1) is 4
        x = Due.wood("t0;r0;p053d1;p052d1;p100g1;p073d1;p070f1;");
        x.go(2);
        where("10 the runner", x, 2, 4, 1);
        x = Due.wood("t0;p053c0;p054c0;p073c0;p120g0;");
        x.go(1);
        where("10 gaoling goes to its gaol", x, 0, 1, 0);
        where("10 ringing goes to its post", x, 2, 2, 1);
        where("10 the creeping one", x, 3, 5, 0);
        goal("5 as near to the gaol as 5, by 4", x, 1, 5, 0);
        goal("5 as near to the gaol as 5, by 3", x, 0, 0, 0);
        goal("5 ringing: as near to its home as 3", x, 2, 5, 0);
    }

    private static void creeping() {
        // figure 3: halved 1; the next cell is (6, 3)
        TwoFlags x = Due.wood("p023f3;p110h3;");
        goal("5 one as near as 1 to where it would go", x, 0, 5, 3);
        x.go(1);
        where("10 it stays", x, 0, 5, 3);
        x = Due.wood("p021f3;p110h3;");
        goal("5 figure 1 is 0 halved", x, 0, 10, 3);
        x = Due.wood("p023f3;p110i3;");
        goal("5 one as near as 2", x, 0, 10, 3);
        x = Due.wood("p025f3;p110i3;");
        goal("5 figure 5 is 2 halved", x, 0, 5, 3);
        // one who is not on that one's own half does not matter
        x = Due.wood("t0;p029d0;p100g0;");
        goal("5 seen from afar", x, 0, 3, 0);
        x.go(1);
        goal("5 the other is over", x, 0, 10, 3);
        // by the cell to which it goes where its way is shut
        x = Due.wood("g3g3;p023f3;p110h3;");
        goal("5 it would stay, and is as near as 2", x, 0, 10, 3);
    }

    private static void drawing() {
        TwoFlags x = Due.wood("p032f3;p110i3;");
        goal("5 as a creeping one", x, 0, 10, 3);
        x.go(1);
        // at (6, 3) the other is as near as 2
        goal("5 drawn: home", x, 0, 5, 3);
        x.go(1);
        where("10 home again", x, 0, 5, 3);
        goal("5 asked anew", x, 0, 10, 3);
        x = Due.wood("p035f3;p110i3;");
        goal("5 as near as 3, by 5: its home", x, 0, 5, 3);
        x = Due.wood("p034e3;p110h3;p032e3;");
        goal("5 as near as 3, by 4: its home", x, 0, 4, 3);
        goal("5 as near as 3, by 2: it creeps", x, 2, 10, 3);
    }

    private static void touches() {
        // reach 0: the same cell alone
        TwoFlags x = Due.wood("p000f3;p110g2;");
        x.go(1);
        Due.due("10 the guard comes to its cell", x.player(0, 5), 1);
        Due.due("11 held", x.state(3), 1);
        Due.due("11 touched", x.state(4), 1);
        x = Due.wood("p000f3;p150l0;p170h2;");
        x.go(1);
        Due.due("10 reach 0, near 1", x.player(0, 5), 0);
        x = Due.wood("e1;p000f3;p170g2;");
        x.go(1);
        Due.due("10 reach 1", x.player(0, 5), 1);
        // wherever the toucher is: side 1's one, over on side 0's half, touches who steps onto side 1's half
        x = Due.wood("e1;p100g3;p000f2;p000a6;");
        x.go(1);
        Due.due("10 1 is at (6, 2) beside nobody", x.player(1, 5), 0);
        x = Due.wood("e1;t100;p100g0;p000f2;p150l4;");
        x.go(1);
        where("10 0 is over", x, 0, 5, 0);
        Due.due("10 none so near", x.state(4), 0);
        // held of both sides
        x = Due.wood("p010f1;p100g1;p000f5;p110g5;");
        x.go(1);
        Due.due("11 held of side 0", x.player(2, 5), 1);
        Due.due("11 held of side 1", x.player(1, 5), 1);
        Due.due("11 held of both", x.state(3), 2);
        // at its own half it touches only who is on that half
        x = Due.wood("e1;p000f3;p110g3;p010f4;");
        x.go(1);
        Due.due("10 0 stepped over to the guard's cell", x.player(0, 5), 1);
        Due.due("10 the guard stays on its half: free", x.player(1, 5), 0);
        x = Due.wood("e1;p010f3;p110g3;");
        Due.due("10 each on its own half", x.go(5), 5);
        Due.due("11 none touched", x.state(4), 0);
        Due.due("13 no draw either", x.seed(1), 1);
    }

    private static void touchesByDraws() {
        TwoFlags x = Due.wood("p000f3;p110g3;");
        x.go(1);
        // one draw: 1103515245 + 12345
        Due.due("13 one draw", x.seed(1), 1103527590);
        // that draw is 1103527590 / 65536 % 100 = 16838 % 100 = 38
        x = Due.wood("t38;p000f3;p130g3;");
        x.go(1);
        Due.due("10 38 is not below 38", x.player(0, 5), 0);
        x = Due.wood("t39;p000f3;p130g3;");
        x.go(1);
        Due.due("10 38 is below 39", x.player(0, 5), 1);
        // the sign's bit is left out
        x = Due.wood("t0;p000f3;p110g3;");
        x.seed(2);
        x.go(1);
        int z = 2 * 1103515245 + 12345;
        int draw = (int) ((z & 0x7fffffffL) / 65536 % 100);
        Due.due("13 a draw whose z is below 0", z < 0 ? 1 : 0, 1);
        // 1 draws too at its own turn, as 0 is on its half and as near
        int second = z * 1103515245 + 12345;
        Due.due("13 two draws", x.seed(1), second);
        x = Due.wood("t" + draw + ";p000f3;p110g3;");
        x.seed(2);
        x.go(1);
        int drawn = (second & 0x7fffffff) / 65536 % 100;
        Due.due("10 by both draws", x.player(0, 5), drawn < draw ? 1 : 0);
        x = Due.wood("t" + (draw + 1) + ";p000f3;p110g3;");
        x.seed(2);
        x.go(1);
        Due.due("10 by the first", x.seed(1), z);
        // two touch it one behind the other: none after it is held
        x = Due.wood("p000f3;p110g3;p110g3;");
        x.go(1);
        Due.due("13 no more touch it", x.seed(1), 1103527590);
        Due.due("11 touched once", x.state(4), 1);
        // one touches two, at its own turn, by numbers
        x = Due.wood("e1;t0;p000f2;p000f4;p110g3;");
        x.go(1);
        x.seed(1);
        Due.due("10 t 39", Due.read(x, "t39;"), 1);
        x.anew();
        x.go(1);
        Due.due("11 by draws", x.state(4) > 0 ? 1 : 0, 1);
    }

    private static void fallingFlags() {
        String text = "p000f3;p155j0;";
        TwoFlags x = Due.wood("t0;" + text);
        x.go(6);
        Due.due("10 it has the flag", x.player(0, 6), 1);
        // who carries it is touched at (8, 3) by one whom a role sends there
        for (int falls = 0; falls <= 1; falls++) {
            x = Due.wood("f" + falls + ";p000f3;p110h5;");
            x.go(6);
            Due.due("10 it has the flag", x.flag(1, 1), 0);
            where("10 on its way back", x, 0, 9, 3);
            x.keep(0, 1, 1, 9);
            x.role(1, 0);
            Due.due("10 touched", x.go(2), 8);
            Due.due("10 held", x.player(0, 5), 1);
            Due.due("10 it has it no more", x.player(0, 6), 0);
            Due.due("8 nobody", x.flag(1, 1), -4);
            Due.due("10 it lies there, or went back", x.flag(1, 0), falls == 1 ? 46 : Due.cell(7, 3));
            Due.due("11 had it first", x.state(5), 0);
        }
    }

    private static void freeing() {
        TwoFlags x = Due.wood("p000e3;p110h3;p060e6;");
        goal("5 none held: as a running one", x, 2, 10, 3);
        x.go(2);
        Due.due("10 held", x.player(0, 5), 1);
        goal("5 one is held", x, 2, 11, 6);
        x.go(4);
        Due.due("10 still held", x.player(0, 5), 1);
        x.go(1);
        where("10 at the gaol", x, 2, 11, 6);
        Due.due("10 freed", x.player(0, 5), 0);
        where("10 at its home, its turn was ahead", x, 0, 4, 3);
        Due.due("11 none held", x.state(3), 0);
        Due.due("11 touched so far", x.state(4), 1);
        x.go(1);
        where("10 it goes again", x, 0, 5, 3);
        where("10 and so does who freed it", x, 2, 11, 5);
        // of two held the least number, or all; who has a greater number than who frees acts at once
        for (int lets = 0; lets <= 1; lets++) {
            x = Due.wood("l" + lets + ";p060e6;p000f3;p000f3;p110g3;");
            x.go(1);
            Due.due("10 two are held", x.state(3), 2);
            x.go(5);
            Due.due("10 two are held still", x.state(3), 2);
            x.go(1);
            // freed, they go to the guard at once
            Due.due("11 touched again", x.state(4), lets == 1 ? 4 : 3);
        }
        // any kind frees, if it comes there; with none held nothing is done
        x = Due.wood("g3k5;g3l5;p000e6;");
        x.go(9);
        Due.due("10 nobody to free", x.state(3), 0);
    }

    private static void takingWithoutAStep() {
        // 0 brings the flag to (8, 3), where 1 stands and the guard is near; by this seed 0 alone is held there
        TwoFlags x = Due.wood("r0;t20;e1;p000f3;p000c3;p110i4;");
        x.seed(23);
        x.go(6);
        Due.due("8 0 has it", x.flag(1, 1), 0);
        where("10 0 on its way back", x, 0, 9, 3);
        where("10 1 on its way", x, 1, 8, 3);
        x.go(1);
        Due.due("10 0 is held", x.player(0, 5), 1);
        where("10 1 stands there still", x, 1, 8, 3);
        Due.due("8 1 has it", x.flag(1, 1), 1);
        // neither is anything taken while one waits in brook
        x = Due.wood("g2j3;p000f3;");
        x.go(4);
        Due.due("10 in brook", x.player(0, 7), 1);
        x.go(2);
        Due.due("10 taken", x.player(0, 6), 1);
    }

    private static void nobodyActsAnyMore() {
        TwoFlags x = Due.wood("p000f3;p000a6;p100g0;");
        x.go(9);
        int was = x.player(1, 4);
        Due.due("10 won", x.go(1), 10);
        Due.due("11 won", x.state(1), 0);
        Due.due("10 who comes behind did not act", x.player(1, 4), was);
    }

    private static void anewAndSeed() {
        TwoFlags x = new TwoFlags();
        Due.due("12 nobody", x.anew(), 0);
        Due.due("13 what it was", x.seed(-7), 1);
        Due.due("13 what it was", x.seed(Integer.MIN_VALUE), -7);
        Due.due("13 what it was", x.seed(0), Integer.MIN_VALUE);
        x = Due.wood("g2f4;c0160;p000e3;p110h3;p000e4;");
        x.go(3);
        int z = x.seed(0);
        x.seed(z);
        Due.due("12 how many", x.anew(), 3);
        int[] states = {0, 2, 0, 0, 0, -4};
        for (int what = 0; what < 6; what++) {
            Due.due("12 state " + what, x.state(what), states[what]);
        }
        for (int player = 0; player < 3; player++) {
            Due.due("12 home", x.player(player, 4), x.player(player, 3));
            Due.due("12 free", x.player(player, 5), 0);
            Due.due("12 no brook", x.player(player, 7), 0);
        }
        Due.due("12 plans stay", x.count(2), 1);
        Due.due("12 ground stays", x.count(4), 1);
        Due.due("12 z stays", x.seed(1), z);
        x.go(100);
        x.anew();
        Due.due("12 flags are back", x.flag(1, 0), 46);
        Due.due("12 nobody has them", x.flag(1, 1), -4);
    }

    private static void judging() {
        TwoFlags x = Due.wood("p000e3;");
        Due.due("14 no player", x.judge(1, 0), -1);
        Due.due("14 no player", x.judge(-1, 0), -1);
        Due.due("14 no shelf", x.judge(0, 8), -1);
        Due.due("14 no shelf", x.judge(0, -1), -1);
        Due.due("14 nothing", x.judge(0, 0), -11);
        x.keep(0, 1, 0, 0);
        Due.due("14 a role", x.judge(0, 0), -12);
        x.row(0, 0, 0);
        Due.due("14 no cells", x.judge(0, 0), -4);
        int[] leasts = {-128, -32768, Integer.MIN_VALUE};
        for (int sort = 0; sort < 3; sort++) {
            Due.fill(x, 0, sort, 41, 42, leasts[sort], 44);
            Due.due("14 all so", x.judge(0, 0), -4);
            x.put(0, 2, leasts[sort] + 1);
            Due.due("14 not so", x.judge(0, 0), 2);
            x.put(0, 0, 40);
            Due.due("14 the first that isn't", x.judge(0, 0), 0);
        }
        Due.due("14 in mind alone", x.state(0), 0);
        x.go(2);
        Due.fill(x, 0, 0, 43, 44, 45, 46, 45, 44, 43, 42, 41, 41, 41);
        Due.due("14 from now on, and behind its end", x.judge(0, 0), -4);
        x.put(0, 10, 40);
        Due.due("14 nothing changes behind its end", x.judge(0, 0), 10);
        // z as it is: by 1 it is held in the first second; the draw of 3 is another one
        x = Due.wood("t39;p000f3;p130g3;");
        Due.fill(x, 0, 0, 83);
        Due.due("14 by z 1", x.judge(0, 0), -4);
        Due.due("14 z stays", x.seed(3), 1);
        int z = 3 * 1103515245 + 12345;
        int draw = (z & 0x7fffffff) / 65536 % 100;
        Due.due("14 by z 3", x.judge(0, 0), draw < 39 ? -4 : 0);
        Due.due("14 that draw", draw < 39 ? 1 : 0, 0);
    }
}
