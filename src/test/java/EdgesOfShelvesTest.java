/** The edges that promises 30 to 39 name: the image, what is told, shelves, rows, what roles count and throw. */
public final class EdgesOfShelvesTest {
    private static final int[] ENDS = {Integer.MIN_VALUE, Integer.MAX_VALUE};
    private static final int[] NO_SHELVES = {-1, 8, Integer.MIN_VALUE, Integer.MAX_VALUE};

    public static void main(String[] args) {
        imageOfEachThing();
        imageAtEachSecond();
        imageIsNotAmongWhatIsRestored();
        countsOfTheWood();
        eightShelves();
        keepNothingOrARole();
        rowsOf0To100();
        lowestBits();
        putInOrder();
        elementsThrow();
        copyAtTheEnds();
        copyInOrder();
        copyWithinOneRow();
        countsByKinds();
        tossByKinds();
        Due.end();
    }

    private static int z(TwoFlags x) {
        int z = x.seed(0);
        x.seed(z);
        return z;
    }

    /** "all that there is, but SHELVES": each thing changed alone behind the image, and restored. */
    private static void imageOfEachThing() {
        TwoFlags x = Due.wood("p041e3;p110h3;");
        x.image();
        Due.read(x, "g1c2;r0;e1;f1;l1;t7;h77;p000f3;c0110;c1110;");
        x.seed(99);
        x.keep(0, 1, 6, 9);
        x.role(0, 0);
        Due.due("restored", x.restore(), 0);
        int[] rules = {1, 0, 100, 0, 0, 200};
        int[] counts = {2, 1, 0, 0, 0, 0};
        for (int what = 0; what < 6; what++) {
            Due.due("rule " + what, x.rule(what), rules[what]);
            Due.due("count " + what, x.count(what), counts[what]);
        }
        Due.due("kind", x.player(0, 1), 4);
        Due.due("figure", x.player(0, 2), 1);
        Due.due("z", z(x), 1);
        Due.due("ground", x.ground(Due.at("c2")), 0);
        Due.due("no third player", x.player(2, 0), -1);
        // there is room again for all that was restored away
        Due.due("room for plans", Due.read(x, "c0110;c0110;c1110;c1110;"), 4);
    }

    /** The same in the midst of games: cells, who is held, brooks, flags, who carries, who won, touched, first. */
    private static void imageAtEachSecond() {
        String[] texts = {"g2f3;g2h3;p000e3;p110i5;p060a6;p100g0;", "e1;t60;g2g0g6;p000e3;p113h3;p060e6;p140g1;c0110;",
            "t0;p000f1;p100g5;", "f1;l1;t80;p000f3;p110h3;p060e6;p100h0;p010e1;", "t0;p100g3;p000a6;"};
        for (String text : texts) {
            for (int second = 0; second <= 12; second += 3) {
                TwoFlags x = Due.wood(text);
                if (second > 0) {
                    x.go(second);
                }
                int[] was = told(x);
                int at = x.image();
                Due.due("the image's second", at, was[0]);
                x.go(4);
                x.anew();
                x.go(2);
                x.seed(4711);
                Due.due("restored", x.restore(), at);
                int[] is = told(x);
                for (int i = 0; i < was.length; i++) {
                    Due.due(text + " at " + second + ", " + i, is[i], was[i]);
                }
                // it goes on as an object that had no image
                TwoFlags y = Due.wood(text);
                if (second > 0) {
                    y.go(second);
                }
                Due.due("it goes on", x.go(3), y.go(3));
                int[] on = told(x);
                int[] due = told(y);
                for (int i = 0; i < on.length; i++) {
                    Due.due(text + " on from " + second + ", " + i, on[i], due[i]);
                }
            }
        }
    }

    private static int[] told(TwoFlags x) {
        int players = x.count(0);
        int[] told = new int[11 + 6 * players];
        for (int i = 0; i < 6; i++) {
            told[i] = x.state(i);
        }
        for (int i = 0; i < 4; i++) {
            told[6 + i] = x.flag(i / 2, i % 2);
        }
        told[10] = z(x);
        int[] whats = {1, 4, 5, 6, 7, 8};
        for (int i = 0; i < 6 * players; i++) {
            told[11 + i] = x.player(i / 6, whats[i % 6]);
        }
        return told;
    }

    /** "-3: there is none"; "all that there is, but SHELVES (and THE IMAGE)". */
    private static void imageIsNotAmongWhatIsRestored() {
        TwoFlags x = new TwoFlags();
        Due.due("none", x.restore(), -3);
        Due.due("none still", x.restore(), -3);
        Due.due("of an empty wood", x.image(), 0);
        Due.read(x, "p000e3;");
        Due.due("restored", x.restore(), 0);
        Due.due("nobody", x.count(0), 0);
        Due.due("there is one still", x.restore(), 0);
        Due.read(x, "p000e3;");
        x.go(3);
        Due.due("a later one", x.image(), 3);
        x.anew();
        Due.due("restored", x.restore(), 3);
        Due.due("restored again", x.restore(), 3);
        // at the end
        x.go(100);
        Due.due("the end", x.image(), 11);
        x.anew();
        Due.due("restored", x.restore(), 11);
        Due.due("ended", x.state(2), 1);
        Due.due("won", x.state(1), 0);
        Due.due("ended", x.go(1), -3);
        // shelves stay as they are
        x.keep(0, 1, 1, 1);
        Due.fill(x, 1, 0, 1, 2);
        x.image();
        x.keep(0, 1, 1, 2);
        x.put(1, 1, 9);
        x.row(2, 0, 1);
        x.keep(3, 1, 2, 2);
        x.keep(1, 0, 0, 0);
        x.restore();
        Due.due("a role as it is", x.counts(0), 3);
        Due.due("nothing as it is", x.put(1, 0, 0), -11);
        Due.due("a row as it is", x.put(2, 0, 0), 0);
        Due.due("another role as it is", x.counts(3), 5);
    }

    /** "-1 for others". */
    private static void countsOfTheWood() {
        TwoFlags x = Due.wood("g1a1a6;g1b0f0;g2l0l5;g3c1d2;p000f3;p100g3;p100g3;c1110;");
        int[] want = {3, 1, 1, 11, 6, 4};
        for (int what = 0; what < 6; what++) {
            Due.due("count " + what, x.count(what), want[what]);
        }
        int[] none = {-1, 6, ENDS[0], ENDS[1]};
        for (int what : none) {
            Due.due("no count " + what, x.count(what), -1);
        }
        x = new TwoFlags();
        for (int what = 0; what < 6; what++) {
            Due.due("a new object's count " + what, x.count(what), 0);
        }
        // a wood as full as it can be: 80 cells
        Due.due("all but path", Due.read(x, "g1b0l0;g1a1l1;g1a2l2;g1a3;g1c3j3;g1l3;g1a4l4;g1a5l5;g1a6k6;"), 9);
        Due.due("80 of fern", x.count(3), 80);
        for (int ground = 2; ground <= 3; ground++) {
            String g = "g" + ground;
            Due.read(x, g + "b0l0;" + g + "a1l1;" + g + "a2l2;" + g + "a3;" + g + "c3j3;" + g + "l3;" + g + "a4l4;" + g + "a5l5;" + g + "a6k6;");
            Due.due("80 of ground " + ground, x.count(2 + ground), 80);
        }
        Due.read(x, "g0a0l6;");
        Due.due("none", x.count(3) + x.count(4) + x.count(5), 0);
        // ground at the wood's ends
        x = Due.wood("g1b0;g1l0;g1a6;g1k6;");
        Due.due("four of fern", x.count(3), 4);
    }

    /** "SHELVES 0 .. 7 each hold nothing (at first)": what one gets the others do not. */
    private static void eightShelves() {
        for (int d = 0; d < 8; d++) {
            TwoFlags x = new TwoFlags();
            for (int e = 0; e < 8; e++) {
                Due.due("nothing at first", x.put(e, 0, 0), -11);
            }
            x.row(d, 0, 3);
            x.put(d, 2, 5);
            for (int e = 0; e < 8; e++) {
                Due.due("shelf " + e + " with a row on " + d, x.put(e, 0, 0), e == d ? 0 : -11);
            }
            x.keep((d + 1) % 8, 1, 2, 2);
            for (int e = 0; e < 8; e++) {
                Due.due("shelf " + e + " with a role behind " + d, x.counts(e), e == d ? -12 : e == (d + 1) % 8 ? 5 : -11);
            }
            Due.due("its row", x.element(d, 2), 5);
        }
        TwoFlags x = Due.wood("p000e3;");
        for (int d : NO_SHELVES) {
            Due.due("keep", x.keep(d, 1, 0, 0), -1);
            Due.due("keep nothing", x.keep(d, 0, 0, 0), -1);
            Due.due("row", x.row(d, 0, 0), -1);
            Due.due("put", x.put(d, 0, 0), -1);
            Due.due("element", Due.thrownByElement(x, d, 0), 1);
            Due.due("copy", x.copy(d, 0, 7, 0, 0), -1);
            Due.due("copy", x.copy(7, 0, d, 0, 0), -1);
            Due.due("counts", x.counts(d), -1);
            Due.due("toss", x.toss(d), -1);
            Due.due("text", x.text(d), -1);
            Due.due("role", x.role(0, d), -1);
            Due.due("judge", x.judge(0, d), -1);
        }
    }

    /** "what = 0 nothing (the others do not matter); 1 a ROLE of KIND k with a FIGURE: 0. -1". */
    private static void keepNothingOrARole() {
        TwoFlags x = new TwoFlags();
        for (int kind = -1; kind <= 8; kind++) {
            for (int figure = -1; figure <= 10; figure++) {
                boolean well = kind >= 0 && kind <= 7 && figure >= 0 && figure <= 9;
                x = new TwoFlags();
                Due.due("keep " + kind + " " + figure, x.keep(3, 1, kind, figure), well ? 0 : -1);
                Due.due("it is there", x.toss(3) == -11 ? 0 : 1, well ? 1 : 0);
            }
        }
        int[] whats = {-1, 2, ENDS[0], ENDS[1]};
        for (int what : whats) {
            Due.due("no what " + what, x.keep(0, what, 0, 0), -1);
        }
        for (int end : ENDS) {
            Due.due("no kind", x.keep(0, 1, end, 0), -1);
            Due.due("no figure", x.keep(0, 1, 0, end), -1);
            x.keep(0, 1, 0, 0);
            Due.due("nothing, the others do not matter", x.keep(0, 0, end, end), 0);
            Due.due("nothing", x.counts(0), -11);
            Due.due("nothing again", x.keep(0, 0, 0, 0), 0);
        }
        x.row(0, 2, 100);
        Due.due("nothing in place of a row", x.keep(0, 0, 0, 0), 0);
        Due.due("nothing", x.put(0, 0, 0), -11);
        x.row(0, 2, 100);
        Due.due("a role in place of a row", x.keep(0, 1, 1, 0), 0);
        Due.due("a role", x.counts(0), 1);
        Due.due("a row in place of a role", x.row(0, 0, 1), 0);
        Due.due("a row", x.counts(0), -12);
    }

    /** "A ROW has a SORT (0 bytes, 1 shorts, 2 ints) and 0 .. 100 elements, 0 at first"; "-1 (n above 100); -14". */
    private static void rowsOf0To100() {
        int[] sizes = {0, 1, 2, 99, 100};
        for (int sort = 0; sort < 3; sort++) {
            for (int size : sizes) {
                TwoFlags x = new TwoFlags();
                Due.due("row of " + size, x.row(0, sort, size), 0);
                for (int i = 0; i < size; i++) {
                    Due.due("0 at first", x.element(0, i), 0);
                }
                Due.due("none behind", Due.thrownByElement(x, 0, size), 2);
                Due.due("none behind", x.put(0, size, 0), -13);
                Due.due("none ahead", x.put(0, -1, 0), -13);
                if (size > 0) {
                    Due.due("the last", x.put(0, size - 1, 1), 0);
                    Due.due("the last", x.element(0, size - 1), 1);
                    Due.due("a row anew", x.row(0, sort, size), 0);
                    Due.due("0 again", x.element(0, size - 1), 0);
                }
            }
        }
        TwoFlags x = new TwoFlags();
        int[][] wrong = {{0, 0, 101, -1}, {0, 0, ENDS[1], -1}, {0, 0, -1, -14}, {0, 0, ENDS[0], -14}, {0, 3, 0, -1}, {0, -1, 0, -1},
            {0, 3, -1, -1}, {0, -1, -1, -1}, {8, 0, -1, -1}, {-1, 0, -1, -1}, {0, ENDS[0], 0, -1}, {0, ENDS[1], -1, -1}};
        for (int[] w : wrong) {
            Due.due("row " + w[0] + " " + w[1] + " " + w[2], x.row(w[0], w[1], w[2]), w[3]);
        }
        Due.due("nothing came", x.put(0, 0, 0), -11);
        // a shorter one behind a longer one: 0 at first, and no more places than told
        Due.fill(x, 0, 2, 1, 2, 3, 4, 5);
        x.row(0, 2, 2);
        Due.due("0 at first", x.element(0, 1), 0);
        Due.due("no more places", Due.thrownByElement(x, 0, 2), 2);
        x.row(0, 2, 5);
        Due.due("0 at first", x.element(0, 4), 0);
    }

    /** "what is put in keeps its lowest bits". */
    private static void lowestBits() {
        long[][] table = {{0, 0, 0, 0}, {127, 127, 127, 127}, {128, -128, 128, 128}, {255, -1, 255, 255}, {256, 0, 256, 256},
            {-128, -128, -128, -128}, {-129, 127, -129, -129}, {-256, 0, -256, -256}, {32767, -1, 32767, 32767},
            {32768, 0, -32768, 32768}, {65535, -1, -1, 65535}, {65536, 0, 0, 65536}, {-32768, 0, -32768, -32768},
            {-32769, -1, 32767, -32769}, {Integer.MAX_VALUE, -1, -1, Integer.MAX_VALUE},
            {Integer.MIN_VALUE, 0, 0, Integer.MIN_VALUE}, {0x12345678, 0x78, 0x5678, 0x12345678}, {-1, -1, -1, -1}};
        for (long[] row : table) {
            for (int sort = 0; sort < 3; sort++) {
                TwoFlags x = new TwoFlags();
                x.row(0, sort, 1);
                Due.due("put", x.put(0, 0, (int) row[0]), 0);
                Due.due(row[0] + " in sort " + sort, x.element(0, 0), row[1 + sort]);
            }
        }
    }

    /** "-1, -11, -12, -13", the first of several as they are told. */
    private static void putInOrder() {
        TwoFlags x = new TwoFlags();
        Due.due("no shelf, no place", x.put(8, -1, 0), -1);
        Due.due("nothing, no place", x.put(0, -1, 0), -11);
        x.keep(0, 1, 0, 0);
        Due.due("a role, no place", x.put(0, -1, 0), -12);
        x.row(0, 0, 3);
        int[] none = {-1, 3, ENDS[0], ENDS[1]};
        for (int i : none) {
            Due.due("no place " + i, x.put(0, i, 7), -13);
        }
        for (int i = 0; i < 3; i++) {
            Due.due("nothing came", x.element(0, i), 0);
            Due.due("a place", x.put(0, i, 7), 0);
        }
    }

    /** "IllegalArgumentException: no such SHELF; IllegalStateException: no ROW, no such place". */
    private static void elementsThrow() {
        TwoFlags x = new TwoFlags();
        int[] places = {-1, 0, 3, ENDS[0], ENDS[1]};
        for (int i : places) {
            for (int d : NO_SHELVES) {
                Due.due("no shelf " + d + ", " + i, Due.thrownByElement(x, d, i), 1);
            }
            x.keep(0, 0, 0, 0);
            Due.due("nothing, " + i, Due.thrownByElement(x, 0, i), 2);
            x.keep(0, 1, 1, 1);
            Due.due("a role, " + i, Due.thrownByElement(x, 0, i), 2);
            x.row(0, 1, 3);
            Due.due("a row, " + i, Due.thrownByElement(x, 0, i), i == 0 ? 0 : 2);
            x.row(0, 1, 0);
            Due.due("a row of none, " + i, Due.thrownByElement(x, 0, i), 2);
        }
        // a role in place of a row has no elements, though the row had
        Due.fill(x, 0, 0, 1, 2, 3);
        x.keep(0, 1, 1, 1);
        Due.due("no row any more", Due.thrownByElement(x, 0, 1), 2);
        x.keep(0, 0, 0, 0);
        Due.due("no row any more", Due.thrownByElement(x, 0, 1), 2);
    }

    /** "-13 (n below 0, too; n 0 at the end is well)". */
    private static void copyAtTheEnds() {
        for (int sort = 0; sort < 3; sort++) {
            TwoFlags x = new TwoFlags();
            Due.fill(x, 0, sort, 1, 2, 3, 4);
            x.row(1, sort, 3);
            for (int i = -1; i <= 5; i++) {
                for (int j = -1; j <= 4; j++) {
                    for (int n = -1; n <= 5; n++) {
                        // as many calls as one object may have are soon gone
                        x = n == -1 && j == -1 ? new TwoFlags() : x;
                        Due.fill(x, 0, sort, 1, 2, 3, 4);
                        x.row(1, sort, 3);
                        boolean well = i >= 0 && j >= 0 && n >= 0 && i + n <= 4 && j + n <= 3;
                        Due.due("copy " + i + " " + j + " " + n, x.copy(0, i, 1, j, n), well ? n : -13);
                        int sum = 0;
                        for (int k = 0; k < 3; k++) {
                            sum = 10 * sum + (int) x.element(1, k);
                        }
                        int due = 0;
                        for (int k = 0; k < 3; k++) {
                            due = 10 * due + (well && k >= j && k < j + n ? i + k - j + 1 : 0);
                        }
                        Due.due("what came by copy " + i + " " + j + " " + n, sum, due);
                    }
                }
            }
            // numbers whose sums would wrap around
            for (int end : ENDS) {
                Due.due("no place", x.copy(0, end, 1, 0, 1), -13);
                Due.due("no place", x.copy(0, 0, 1, end, 1), -13);
                Due.due("no place", x.copy(0, 0, 1, 0, end), -13);
                Due.due("no place", x.copy(0, 1, 1, 1, end), -13);
                Due.due("no place", x.copy(0, end, 1, end, end), -13);
                Due.due("no place", x.copy(0, end, 1, 0, 0), -13);
            }
        }
        // rows of none, rows of 100
        TwoFlags x = new TwoFlags();
        x.row(0, 0, 0);
        x.row(1, 0, 0);
        Due.due("none of none", x.copy(0, 0, 1, 0, 0), 0);
        Due.due("one of none", x.copy(0, 0, 1, 0, 1), -13);
        x.row(2, 2, 100);
        x.row(3, 2, 100);
        x.put(2, 0, 5);
        x.put(2, 99, 6);
        Due.due("all of 100", x.copy(2, 0, 3, 0, 100), 100);
        Due.due("the first came", x.element(3, 0), 5);
        Due.due("the last came", x.element(3, 99), 6);
        Due.due("101 of 100", x.copy(2, 0, 3, 0, 101), -13);
        Due.due("none at both ends", x.copy(2, 100, 3, 100, 0), 0);
        Due.due("none behind an end", x.copy(2, 101, 3, 100, 0), -13);
        Due.due("none behind an end", x.copy(2, 100, 3, 101, 0), -13);
    }

    /** "-1, -11 (either), -12 (no ROWS of one SORT), -13", the first of several as they are told. */
    private static void copyInOrder() {
        TwoFlags x = new TwoFlags();
        Due.due("nothing in both, n below 0", x.copy(0, 0, 1, 0, -1), -11);
        Due.due("no shelf, nothing", x.copy(8, 0, 1, 0, -1), -1);
        Due.due("nothing, no shelf", x.copy(0, 0, -1, 0, -1), -1);
        x.keep(0, 1, 0, 0);
        Due.due("a role, nothing", x.copy(0, 0, 1, 0, 0), -11);
        Due.due("nothing, a role", x.copy(1, 0, 0, 0, 0), -11);
        Due.due("a role to itself", x.copy(0, 0, 0, 0, 0), -12);
        for (int sort = 0; sort < 3; sort++) {
            x.row(2, sort, 2);
            Due.due("a row, nothing", x.copy(2, 0, 1, 0, 9), -11);
            Due.due("nothing, a row", x.copy(1, 0, 2, 0, 9), -11);
            Due.due("a row, a role", x.copy(2, 0, 0, 0, 9), -12);
            Due.due("a role, a row", x.copy(0, 0, 2, 0, 9), -12);
            for (int other = 0; other < 3; other++) {
                x.row(3, other, 2);
                Due.due("sorts " + sort + " " + other, x.copy(2, 0, 3, 0, 2), sort == other ? 2 : -12);
                Due.due("sorts " + sort + " " + other + ", no place", x.copy(2, 0, 3, 0, 3), sort == other ? -13 : -12);
                Due.due("sorts " + sort + " " + other + ", none", x.copy(2, 2, 3, 2, 0), sort == other ? 0 : -12);
            }
        }
    }

    private static void copyWithinOneRow() {
        int[][] table = {{0, 1, 4}, {1, 0, 4}, {0, 0, 5}, {2, 2, 2}, {0, 4, 1}, {4, 0, 1}, {0, 2, 3}, {2, 0, 3}, {5, 0, 0}};
        for (int[] t : table) {
            TwoFlags x = new TwoFlags();
            Due.fill(x, 0, 1, 1, 2, 3, 4, 5);
            Due.due("copy " + t[0] + " " + t[1] + " " + t[2], x.copy(0, t[0], 0, t[1], t[2]), t[2]);
            for (int k = 0; k < 5; k++) {
                boolean came = k >= t[1] && k < t[1] + t[2];
                Due.due("element " + k, x.element(0, k), came ? t[0] + k - t[1] + 1 : k + 1);
            }
        }
    }

    /** What each KIND COUNTS by each FIGURE: "RINGING half of a GUARDING's, cut", "GAOLING a GUARDING's less 1". */
    private static void countsByKinds() {
        TwoFlags x = new TwoFlags();
        Due.due("nothing", x.counts(0), -11);
        for (int sort = 0; sort < 3; sort++) {
            x.row(0, sort, sort);
            Due.due("a row", x.counts(0), -12);
        }
        int[] ringing = {0, 1, 1, 2, 2, 3, 3, 4, 4, 5};
        for (int figure = 0; figure <= 9; figure++) {
            int[] want = {1, 1 + figure, 5, 10, 8, figure, 8 + figure, ringing[figure]};
            for (int kind = 0; kind < 8; kind++) {
                x.keep(0, 1, kind, figure);
                Due.due("kind " + kind + ", figure " + figure, x.counts(0), want[kind]);
                Due.due("it stays", x.counts(0), want[kind]);
            }
        }
    }

    /** "DRAWING ones, and any with FIGURE 0 (FREEING, GAOLING ones, too), have none". */
    private static void tossByKinds() {
        TwoFlags x = new TwoFlags();
        Due.due("nothing", x.toss(0), -11);
        for (int sort = 0; sort < 3; sort++) {
            x.row(0, sort, sort);
            Due.due("a row", x.toss(0), -12);
        }
        for (int figure = 0; figure <= 9; figure++) {
            int[] want = {figure, figure, figure, -15, figure, 100 + figure, 208 + figure, figure};
            for (int kind = 0; kind < 8; kind++) {
                x.keep(0, 1, kind, figure);
                Due.due("kind " + kind + ", figure " + figure, x.toss(0), figure == 0 ? -15 : want[kind]);
                Due.due("it stays", x.toss(0), figure == 0 ? -15 : want[kind]);
            }
        }
    }
}
