/** What the tests share: the comparison, its tally, and a text brought to an object. */
final class Due {
    private static int asked = 0;
    private static int wrong = 0;

    private Due() {
    }

    static void due(String call, long got, long want) {
        asked++;
        if (got != want) {
            wrong++;
            System.out.println(call + " answered " + got + ", due is " + want);
        }
    }

    /** Ends the test: exit code 1 if an answer was wrong, or if nothing was asked. */
    static void end() {
        System.out.println(wrong == 0 ? asked + " answers, all as due" : wrong + " of " + asked + " answers are not as due");
        if (wrong != 0 || asked == 0) {
            System.exit(1);
        }
    }

    /** Puts a text on shelf 7 and reads it. */
    static int read(TwoFlags x, String text) {
        fill(x, 7, 0, text.chars().toArray());
        return x.text(7);
    }

    static void fill(TwoFlags x, int d, int sort, int... elements) {
        x.row(d, sort, elements.length);
        for (int i = 0; i < elements.length; i++) {
            x.put(d, i, elements[i]);
        }
    }

    /** A new object with a text that must come. */
    static TwoFlags wood(String text) {
        TwoFlags x = new TwoFlags();
        due("text " + text, read(x, text) > 0 ? 1 : 0, 1);
        return x;
    }

    static int cell(int column, int row) {
        return 12 * row + column;
    }

    /** A cell by its letter and digit, as texts have it. */
    static int at(String cell) {
        return cell(cell.charAt(0) - 'a', cell.charAt(1) - '0');
    }

    /** The letter and the digit of a cell, as texts have it. */
    static String named(int cell) {
        return (char) ('a' + cell % 12) + "" + cell / 12;
    }

    /** 0 if nothing is thrown, 1 IllegalArgumentException, 2 IllegalStateException. */
    static int thrownByElement(TwoFlags x, int d, int i) {
        try {
            x.element(d, i);
        } catch (IllegalArgumentException e) {
            return 1;
        } catch (IllegalStateException e) {
            return 2;
        }
        return 0;
    }
}
