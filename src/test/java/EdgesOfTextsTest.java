/** The edges that the document's part 2, on texts, names. */
public final class EdgesOfTextsTest {
    private static final String LETTERS = "grefltphc";
    private static final String DIGITS = "0123456789";
    private static final String COLUMNS = "abcdefghijkl";
    private static final String ROWS = "0123456";

    public static void main(String[] args) {
        bytesThatMayStand();
        numbersOfOneToThreeDigits();
        endsTooEarly();
        kind1AheadOfKind2();
        theFirstStatementThatIsNotAsTold();
        numbersOutOfRange();
        noRoom();
        eachOnWhatThoseAheadMade();
        withAFaultNothingComes();
        boxes();
        secondsWentBy();
        plansByHowManyAreHeld();
        plansForKind4Itself();
        ofTwoPlansTheOneToldLater();
        shelvesOfTexts();
        Due.end();
    }

    private static void text(String text, int want) {
        Due.due("text '" + text + "'", Due.read(new TwoFlags(), text), want);
    }

    /** Each beginning of a text with each byte behind it: "the first byte with which no TEXT can go on". */
    private static void bytesThatMayStand() {
        String[][] table = {
            {"", LETTERS}, {"g", DIGITS}, {"g1", COLUMNS}, {"g1c", ROWS}, {"g1c2", COLUMNS + ";"}, {"g1c2d", ROWS},
            {"g1c2d3", ";"}, {"r", DIGITS}, {"r1", ";"}, {"e", DIGITS}, {"e1", ";"}, {"f", DIGITS}, {"f1", ";"},
            {"l", DIGITS}, {"l1", ";"}, {"t", DIGITS}, {"t0", ";"}, {"t1", DIGITS + ";"}, {"t9", DIGITS + ";"},
            {"t10", DIGITS + ";"}, {"t99", DIGITS + ";"}, {"t100", ";"}, {"h", DIGITS}, {"h0", ";"}, {"h1", DIGITS + ";"},
            {"h60", DIGITS + ";"}, {"h600", ";"}, {"p", DIGITS}, {"p0", DIGITS}, {"p00", DIGITS}, {"p000", COLUMNS},
            {"p000f", ROWS}, {"p000f3", ";"}, {"c", DIGITS}, {"c0", DIGITS}, {"c01", DIGITS}, {"c011", DIGITS},
            {"c0110", ";"}, {"e1;", LETTERS}, {"g1c2;", LETTERS}, {"g1c2d3;", LETTERS}, {"t0;", LETTERS}, {"h600;", LETTERS}};
        for (String[] row : table) {
            String begin = row[0];
            for (int b = -128; b < 128; b++) {
                TwoFlags x = new TwoFlags();
                x.row(7, 0, begin.length() + 1);
                for (int i = 0; i < begin.length(); i++) {
                    x.put(7, i, begin.charAt(i));
                }
                x.put(7, begin.length(), b);
                boolean may = b >= 0 && row[1].indexOf(b) >= 0;
                int got = x.text(7);
                String what = "'" + begin + "' and the byte " + b;
                if (!may) {
                    Due.due(what, got, -1000 - begin.length());
                } else if (b == ';') {
                    Due.due(what + ": its shape is well", got == 1 || got <= -2000 ? 1 : 0, 1);
                } else {
                    Due.due(what + ": it ends too early", got, -1001 - begin.length());
                }
            }
        }
    }

    /** "numbers of 1 to 3 digits, no 0 ahead of another"; TOUCH 0 .. 100, HOUR 10 .. 600. */
    private static void numbersOfOneToThreeDigits() {
        for (int n = 0; n < 1000; n++) {
            TwoFlags x = new TwoFlags();
            Due.due("t" + n, Due.read(x, "t" + n + ";"), n <= 100 ? 1 : -2000);
            Due.due("touch by t" + n, x.rule(2), n <= 100 ? n : 100);
            Due.due("h" + n, Due.read(x, "h" + n + ";"), n >= 10 && n <= 600 ? 1 : -2000);
            Due.due("hour by h" + n, x.rule(5), n >= 10 && n <= 600 ? n : 200);
        }
        String[] ahead = {"00", "01", "000", "010", "099"};
        for (String n : ahead) {
            text("t" + n + ";", -1002);
            text("h" + n + ";", -1002);
        }
        text("t1000;", -1004);
        text("h6000;", -1004);
    }

    /** "the size, if it ends too early"; "At least one STATEMENT". */
    private static void endsTooEarly() {
        text("", -1000);
        String[] whole = {"g1c2;", "g1c2d3;", "r1;", "e1;", "f1;", "l1;", "t100;", "h600;", "p000f3;", "c0110;"};
        for (String t : whole) {
            text(t, 1);
            for (int size = 1; size < t.length(); size++) {
                text(t.substring(0, size), -1000 - size);
                text("e1;" + t.substring(0, size), -1003 - size);
            }
        }
        // a row of bytes that are 0 at first
        TwoFlags x = new TwoFlags();
        x.row(0, 0, 0);
        Due.due("a row of no bytes", x.text(0), -1000);
        x.row(0, 0, 1);
        Due.due("a byte 0", x.text(0), -1000);
        x.row(0, 0, 100);
        Due.due("100 bytes 0", x.text(0), -1000);
        // as long as a row can be
        text("e1;".repeat(32) + "t10;", 33);
        text("e1;".repeat(33) + "e", -1100);
        text("e1;".repeat(33) + ";", -1099);
        text("e1;".repeat(32) + "t100", -1100);
    }

    /** "kind 1 (of any place) goes ahead of kind 2". */
    private static void kind1AheadOfKind2() {
        text("r4;", -2000);
        text("r4;x", -1003);
        text("r4;e1", -1005);
        text("r4;e1;", -2000);
        text("r4;".repeat(33) + "r", -1100);
        text("r4;".repeat(33) + "!", -1099);
        text("p200a0;g9a7;", -1010);
        text("x;r4;", -1000);
    }

    /** "the place of the letter of the first STATEMENT that isn't as told". */
    private static void theFirstStatementThatIsNotAsTold() {
        text("r4;r4;", -2000);
        text("e1;r4;e2;", -2003);
        text("h600;t101;h601;", -2005);
        text("g1c2d3;p000f3;c0180;", -2014);
        text("e1;".repeat(31) + "t101;", -2093);
        text("e1;".repeat(32) + "h9;", -2096);
    }

    /** "a number out of range", each digit that has a range by all ten. */
    private static void numbersOutOfRange() {
        for (int n = 0; n < 10; n++) {
            text("g" + n + "c2;", n <= 3 ? 1 : -2000);
            text("g" + n + "c2d3;", n <= 3 ? 1 : -2000);
            text("r" + n + ";", n <= 3 ? 1 : -2000);
            text("e" + n + ";", n <= 1 ? 1 : -2000);
            text("f" + n + ";", n <= 1 ? 1 : -2000);
            text("l" + n + ";", n <= 1 ? 1 : -2000);
            text("p" + n + "00f3;", n == 0 ? 1 : -2000);
            text("p" + n + "00g3;", n == 1 ? 1 : -2000);
            text("p0" + n + "0f3;", n <= 7 ? 1 : -2000);
            text("p00" + n + "f3;", 1);
            text("c" + n + "110;", n <= 1 ? 1 : -2000);
            text("c0" + n + "10;", n >= 1 ? 1 : -2000);
            text("c01" + n + "0;", n <= 7 ? 1 : -2000);
            text("c011" + n + ";", 1);
        }
    }

    /** "no room": ten PLAYERS, two PLANS of each SIDE. */
    private static void noRoom() {
        text("p000f3;".repeat(10), 10);
        text("p000f3;".repeat(11), -2070);
        text("p100g3;".repeat(11), -2070);
        text("p100g3;p000f3;".repeat(5) + "e1;", 11);
        text("p100g3;p000f3;".repeat(5) + "e1;p000f3;", -2073);
        text("c0110;c0110;", 2);
        text("c0110;c0110;c0110;", -2012);
        text("c1110;c1110;c1110;", -2012);
        text("c0110;c1110;c0110;c1110;", 4);
        text("c0110;c1110;c0110;c1110;c0110;", -2024);
        text("c0110;c1110;c0110;c1110;c1110;", -2024);
        text("c0110;c0110;c1110;c0110;", -2018);
        // plans that are there already
        TwoFlags x = Due.wood("c0110;");
        Due.due("one more", Due.read(x, "c0110;"), 1);
        Due.due("none more", Due.read(x, "c0110;"), -2000);
        Due.due("of the other side", Due.read(x, "c1110;"), 1);
        Due.due("plans", x.count(2), 3);
    }

    /** "STATEMENTS are tried one behind the other, each on what those ahead of it made". */
    private static void eachOnWhatThoseAheadMade() {
        text("g3d4;p000d4;", -2005);
        text("g3d4;g0d4;p000d4;", 3);
        text("g3d4;p000d4;g0d4;", -2005);
        text("p000d4;g3d4;", -2007);
        text("p000d4;g3d4;g0d4;", -2007);
        text("p000d4;g1d4;g2d4;g0d4;", 4);
        text("p000b1;r2;", -2007);
        text("r2;p000b1;", -2003);
        text("r2;r1;p000b1;", 3);
        text("r2;p000b1;r1;", -2003);
        text("r0;p000b2;r0;", 3);
        text("r0;p000b2;r1;r0;", -2010);
        text("h10;h600;", 2);
        TwoFlags x = Due.wood("h10;h600;t1;t2;e1;e0;f1;f0;l1;l0;");
        int[] last = {1, 0, 2, 0, 0, 600};
        for (int what = 0; what < 6; what++) {
            Due.due("the last told rule " + what, x.rule(what), last[what]);
        }
        x = Due.wood("g1c2f5;g2d3e4;g3d3;g0e4;");
        Due.due("fern around", x.count(3), 12);
        Due.due("brook on it", x.count(4), 2);
        Due.due("thicket on that", x.count(5), 1);
        Due.due("path on that", x.ground(Due.at("e4")), 0);
    }

    /** "Without FAULT all of it comes; with one nothing". */
    private static void withAFaultNothingComes() {
        String well = "g1c2;r0;e1;f1;l1;t7;h77;p000f3;c0110;";
        String[] faults = {"x", "e", "e1", "r4;", "g4c2;", "g3k3;", "g3c0k3;", "p000g3;", "c0010;", "h9;", "t101;", "p090f3;"};
        for (String fault : faults) {
            TwoFlags x = new TwoFlags();
            Due.due("fault behind", Due.read(x, well + fault) < 0 ? 1 : 0, 1);
            nothingCame(x, well + fault);
        }
        // a box whose first cells can be, and whose last can't
        TwoFlags x = new TwoFlags();
        Due.due("a box with a flag at its end", Due.read(x, "g3g0k3;"), -2000);
        nothingCame(x, "a box with a flag at its end");
        // a ring that one home can be out of, and another one can't
        x = Due.wood("p000f3;p000b1;");
        Due.due("a ring", Due.read(x, "r2;"), -2000);
        Due.due("the ring as it was", x.rule(0), 1);
        x = new TwoFlags();
        Due.read(x, well);
        Due.due("all came", x.ground(Due.at("c2")) + x.rule(1) + x.rule(3) + x.rule(4) + x.count(0) + x.count(2), 6);
        Due.due("all came", x.rule(0) + x.rule(2) + x.rule(5), 84);
    }

    private static void nothingCame(TwoFlags x, String what) {
        int[] first = {1, 0, 100, 0, 0, 200};
        for (int i = 0; i < 6; i++) {
            Due.due(what + ": rule " + i, x.rule(i), first[i]);
            Due.due(what + ": count " + i, x.count(i), 0);
        }
        Due.due(what + ": no player", x.player(0, 0), -1);
    }

    /** "that CELL, or all in the box between both", both among them. */
    private static void boxes() {
        String[][] boxes = {{"d2f4", "9"}, {"f4d2", "9"}, {"d4f2", "9"}, {"f2d4", "9"}, {"d2d2", "1"}, {"d2", "1"}, {"d2f2", "3"},
            {"d2d4", "3"}, {"l0l5", "6"}, {"b0l0", "11"}, {"c0j6", "56"}};
        for (String[] box : boxes) {
            TwoFlags x = Due.wood("g2" + box[0] + ";");
            Due.due("cells of the box " + box[0], x.count(4), Integer.parseInt(box[1]));
            int a = Due.at(box[0].substring(0, 2));
            int b = Due.at(box[0].substring(box[0].length() - 2));
            for (int cell = 0; cell < 84; cell++) {
                boolean in = (cell % 12 - a % 12) * (cell % 12 - b % 12) <= 0 && (cell / 12 - a / 12) * (cell / 12 - b / 12) <= 0;
                Due.due("box " + box[0] + ", cell " + cell, x.ground(cell), in ? 2 : 0);
            }
        }
    }

    /** "g, r, p: SECONDS went by". */
    private static void secondsWentBy() {
        String[] early = {"g0c2;", "g1c2d3;", "r1;", "p000f3;"};
        String[] ever = {"e1;", "f1;", "l1;", "t50;", "h300;", "c0110;"};
        for (String t : early) {
            TwoFlags x = Due.wood("p010f3;");
            x.image();
            Due.due("no second went by: " + t, Due.read(x, t), 1);
            x.restore();
            x.go(1);
            Due.due("a second went by: " + t, Due.read(x, t), -2000);
            Due.due("behind another: " + t, Due.read(x, "e1;" + t), -2003);
            x.go(100);
            x.go(100);
            Due.due("it ended", x.state(2), 1);
            Due.due("it ended: " + t, Due.read(x, t), -2000);
            x.image();
            x.anew();
            Due.due("anew: " + t, Due.read(x, t), 1);
            x.restore();
            Due.due("restored to a later second: " + t, Due.read(x, t), -2000);
        }
        for (String t : ever) {
            TwoFlags x = Due.wood("p010f3;");
            x.go(1);
            Due.due("a second went by: " + t, Due.read(x, t), 1);
            x.go(100);
            x.go(100);
            Due.due("at the end: " + t, Due.read(x, t), 1);
        }
    }

    /** "while n or more of its own are HELD". */
    private static void plansByHowManyAreHeld() {
        // three run into one guard one behind the other: none is held at second 0, and one more with each second
        String runners = "p040f3;p041e3;p042d3;";
        for (int n = 1; n <= 4; n++) {
            TwoFlags x = Due.wood("p119g3;" + runners + "p040a6;c0" + n + "09;");
            for (int held = 0; held <= 3; held++) {
                Due.due("held", x.state(3), held);
                boolean by = held >= n;
                Due.due("kind by " + n + " with " + held, x.player(4, 1), by ? 0 : 4);
                Due.due("figure by " + n + " with " + held, x.player(4, 2), by ? 9 : 0);
                x.go(1);
            }
            x.anew();
            Due.due("anew none is held", x.player(4, 1), 4);
        }
        // 9 of 10 at once, and a plan of 9; held ones of the other side do not count
        TwoFlags x = Due.wood("p110g3;" + "p040f3;".repeat(9));
        Due.due("plans of both", Due.read(x, "c0970;c1110;"), 2);
        x.go(1);
        Due.due("nine are held", x.state(3), 9);
        Due.due("by nine", x.player(9, 1), 7);
        Due.due("the other side's is as it was", x.player(0, 1), 1);
        x = Due.wood("p110g3;" + "p040f3;".repeat(8) + "p040a6;c0970;");
        x.go(1);
        Due.due("eight are held", x.state(3), 8);
        Due.due("by nine, with eight", x.player(9, 1), 4);
        x = Due.wood("p040f0;p140g6;p000f3;p110g3;c0110;c1120;");
        x.go(1);
        Due.due("one of side 0 is held", x.player(2, 5), 1);
        Due.due("side 0 by its plan", x.player(0, 1), 1);
        Due.due("side 1 as it was", x.player(1, 1), 4);
        // as soon as the held one is freed (0 comes to l6 in second 6) they run again
        x = Due.wood("p060f6;p010f3;p040a5;p110g3;c0133;");
        x.keep(0, 1, 0, 0);
        x.keep(1, 1, 1, 0);
        x.role(1, 0);
        x.go(1);
        x.role(1, 1);
        Due.due("one is held", x.state(3), 1);
        Due.due("by the plan", x.player(2, 1), 3);
        x.go(4);
        Due.due("one is held still", x.state(3), 1);
        Due.due("by the plan still", x.player(2, 1), 3);
        x.go(1);
        Due.due("freed", x.state(3), 0);
        Due.due("it runs again", x.player(2, 1), 4);
    }

    /** "all its RUNNING ones (of KIND 4 itself)". */
    private static void plansForKind4Itself() {
        for (int kind = 0; kind < 8; kind++) {
            TwoFlags x = Due.wood("p110g3;p000f3;p0" + kind + "5a6;c0169;");
            x.go(1);
            Due.due("one is held", x.player(1, 5), 1);
            Due.due("kind " + kind + " by the plan", x.player(2, 1), kind == 4 ? 6 : kind);
            Due.due("figure of kind " + kind, x.player(2, 2), kind == 4 ? 9 : 5);
        }
        // a plan by which they run: another figure
        TwoFlags x = Due.wood("p110g3;p000f3;p045a6;c0148;");
        x.go(1);
        Due.due("kind 4 by a plan of kind 4", x.player(2, 1), 4);
        Due.due("figure by a plan of kind 4", x.player(2, 2), 8);
        // a role that makes one run brings it under the plan, another one takes it out
        x.keep(0, 1, 0, 3);
        Due.due("a role", x.role(2, 0), 0);
        Due.due("kind of its own", x.player(2, 1), 0);
        Due.due("figure of its own", x.player(2, 2), 3);
        x.keep(0, 1, 4, 3);
        Due.due("the role's own kind", x.role(2, 0), 4);
        Due.due("figure by the plan", x.player(2, 2), 8);
    }

    /** "of two that count the one told later". */
    private static void ofTwoPlansTheOneToldLater() {
        String wood = "p110g3;p000f3;p000e3;p040a6;";
        for (int held = 0; held <= 2; held++) {
            TwoFlags x = Due.wood(wood + "c0125;c0236;");
            TwoFlags y = Due.wood(wood + "c0236;c0125;");
            if (held > 0) {
                x.go(held);
                y.go(held);
            }
            Due.due("held", x.state(3), held);
            Due.due("1, then 2, with " + held, x.player(3, 1), held == 0 ? 4 : held == 1 ? 2 : 3);
            Due.due("2, then 1, with " + held, y.player(3, 1), held == 0 ? 4 : 2);
            Due.due("figure", x.player(3, 2), held == 0 ? 0 : held == 1 ? 5 : 6);
        }
        // both of the same number, told in two texts
        TwoFlags x = Due.wood(wood + "c0125;");
        x.go(1);
        Due.due("by the first", x.player(3, 1), 2);
        Due.due("one more while it goes", Due.read(x, "c0136;"), 1);
        Due.due("by the later one", x.player(3, 1), 3);
        // plans of the other side between them do not matter
        x = Due.wood(wood + "c1171;c0125;c1172;");
        x.go(1);
        Due.due("by its own", x.player(3, 1), 2);
        Due.due("by its own", x.player(3, 2), 5);
    }

    /** "-1, -11, -12 (no ROW of bytes)"; "The ROW that is read .. stay there". */
    private static void shelvesOfTexts() {
        for (int d = 0; d < 8; d++) {
            TwoFlags x = new TwoFlags();
            Due.due("nothing", x.text(d), -11);
            x.keep(d, 1, 0, 1);
            Due.due("a role", x.text(d), -12);
            for (int sort = 0; sort < 3; sort++) {
                Due.fill(x, d, sort, 'e', '1', ';');
                Due.due("sort " + sort, x.text(d), sort == 0 ? 1 : -12);
            }
            Due.fill(x, d, 0, 'e', '1', ';');
            x.text(d);
            Due.due("again", x.text(d), 1);
            Due.due("it stays", x.element(d, 0) * 10000 + x.element(d, 1) * 100 + x.element(d, 2), 'e' * 10000 + '1' * 100 + ';');
        }
        int[] none = {-1, 8, Integer.MIN_VALUE, Integer.MAX_VALUE};
        TwoFlags x = new TwoFlags();
        for (int d : none) {
            Due.due("no shelf " + d, x.text(d), -1);
        }
    }
}
