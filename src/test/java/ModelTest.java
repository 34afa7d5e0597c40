import java.lang.reflect.InvocationTargetException;
import java.lang.reflect.Method;
import java.util.ArrayList;
import java.util.Arrays;
import java.util.List;
import java.util.Random;

/** Random runs of calls on new objects, each answer held against Model; seeds are fixed, so each run is the same. */
public final class ModelTest {
    private static final int MOST_CALLS = 512;
    /** Each call, how often it comes beside the others, and the least and the most of each of its numbers. */
    private static final String[] CALLS = {
        "ground 1 0 83", "rule 1 0 5", "player 12 0 9 0 8", "role 3 0 9 0 7", "sees 3 0 9 0 83", "flag 3 0 1 0 1",
        "near 1 0 83 0 83", "go 6 1 12", "go 1 1 100", "state 6 0 5", "anew 2", "seed 2 -5 5", "judge 3 0 9 0 7",
        "game 2 0 20 0 3", "against 1 1 10 0 20", "table 2 0 7 0 7 0 9 0 20", "bestPlan 1 0 9 0 9 1 5 0 20 0 1",
        "fair 1 1 10 0 20", "smaller 1 0 9 1 10 0 20", "gain 1 1 6 0 6 0 6", "rests 1 1 6 -1 30", "sure 1 1 6 0 1",
        "guards 2 0 1 0 6 0 1", "wayIn 3 0 83 0 83 0 1 0 1", "mayBe 2 0 83 0 20", "worth 3 0 1", "believed 6 0 9",
        "image 1", "restore 1", "count 2 0 5", "keep 6 0 7 0 1 0 7 0 9", "row 2 0 7 0 2 0 100", "put 4 0 7 0 20 -9 90",
        "element 3 0 7 0 20", "copy 3 0 7 0 20 0 7 0 20 0 20", "counts 2 0 7", "toss 2 0 7", "text 1 0 7"};

    private final TwoFlags x = new TwoFlags();
    private final Model model = new Model();
    private final Random random;
    private final StringBuilder told = new StringBuilder();
    private int calls;

    private ModelTest(int seed) {
        random = new Random(seed);
        told.append("run ").append(seed).append(':');
    }

    public static void main(String[] args) throws Exception {
        int runs = args.length > 0 ? Integer.parseInt(args[0]) : 400;
        for (int seed = 0; seed < runs; seed++) {
            new ModelTest(seed).run();
        }
        hours();
        Due.end();
    }

    private void run() throws Exception {
        text(woodText());
        text(planText());
        while (calls < MOST_CALLS - 102) {
            int what = random.nextInt(40);
            if (what == 0) {
                text(random.nextBoolean() ? woodText() : planText());
            } else if (what == 1) {
                text(broken(woodText()));
            } else if (what == 2) {
                told();
            } else {
                any();
            }
        }
    }

    /** The least hour asks so many games of the model that it is held against it by itself. */
    private static void hours() throws Exception {
        for (int seed = 0; seed < 12; seed++) {
            ModelTest t = new ModelTest(1000 + seed);
            t.text(t.woodText());
            t.call("hour", seed % 4 + 1, seed);
        }
    }

    private void any() throws Exception {
        int total = Arrays.stream(CALLS).mapToInt(c -> Integer.parseInt(c.split(" ")[1])).sum();
        int at = random.nextInt(total);
        for (String c : CALLS) {
            String[] words = c.split(" ");
            at -= Integer.parseInt(words[1]);
            if (at < 0) {
                int[] numbers = new int[(words.length - 2) / 2];
                for (int i = 0; i < numbers.length; i++) {
                    numbers[i] = number(Integer.parseInt(words[2 + 2 * i]), Integer.parseInt(words[3 + 2 * i]));
                }
                call(words[0], numbers);
                return;
            }
        }
    }

    private int number(int least, int most) {
        switch (random.nextInt(60)) {
            case 0:
                return least - 1;
            case 1:
                return most + 1;
            case 2:
                return Integer.MIN_VALUE;
            case 3:
                return Integer.MAX_VALUE;
            default:
                return least + random.nextInt(most - least + 1);
        }
    }

    /** A row of cells, or of kinds, on some shelf, and what is judged or tabled by it. */
    private void told() throws Exception {
        int d = random.nextInt(7);
        int size = random.nextInt(5);
        int sort = random.nextInt(3);
        call("row", d, sort, size);
        int player = random.nextInt(6);
        int cell = model.player(player, 4);
        for (int i = 0; i < size; i++) {
            boolean kinds = random.nextBoolean();
            call("put", d, i, kinds ? random.nextInt(8) : random.nextInt(4) == 0 ? 1 << (8 << sort) - 1 : cell);
        }
        call("judge", player, d);
        call("table", d, d, random.nextInt(10), random.nextInt(20));
    }

    private void text(String text) throws Exception {
        if (calls + text.length() + 2 > MOST_CALLS) {
            return;
        }
        told.append(" '").append(text).append("'");
        call("row", 7, 0, text.length());
        for (int i = 0; i < text.length(); i++) {
            call("put", 7, i, text.charAt(i));
        }
        call("text", 7);
    }

    private String cell(int side) {
        int column = side == 2 ? random.nextInt(12) : 6 * side + random.nextInt(6);
        return (char) ('a' + column) + "" + random.nextInt(7);
    }

    private String woodText() {
        StringBuilder text = new StringBuilder();
        for (int i = random.nextInt(6); i > 0; i--) {
            text.append("g").append(1 + random.nextInt(3)).append(cell(2)).append(";");
        }
        if (random.nextInt(4) == 0) {
            text.append("r").append(random.nextInt(4)).append(";");
        }
        if (random.nextInt(6) == 0) {
            text.append("g").append(random.nextInt(4)).append(cell(2)).append(cell(2)).append(";");
        }
        for (int i = random.nextInt(6) == 0 ? 10 : 1 + random.nextInt(7); i > 0; i--) {
            int side = random.nextInt(2);
            text.append("p").append(side).append(random.nextInt(8)).append(random.nextInt(10));
            text.append(cell(random.nextInt(40) == 0 ? 2 : side)).append(";");
        }
        // cut behind a statement
        return text.length() <= 100 ? text.toString() : text.substring(0, text.lastIndexOf(";", 99) + 1);
    }

    private String planText() {
        StringBuilder text = new StringBuilder("t" + random.nextInt(102) + ";");
        List<String> more = new ArrayList<>(List.of("e1;", "e0;", "f1;", "l1;", "h" + (9 + random.nextInt(90)) + ";"));
        more.add("c" + random.nextInt(2) + (random.nextInt(10) == 0 ? 0 : 1 + random.nextInt(2)) + random.nextInt(8) + random.nextInt(10) + ";");
        more.add("c" + random.nextInt(2) + (1 + random.nextInt(3)) + random.nextInt(9) + random.nextInt(10) + ";");
        for (int i = random.nextInt(5); i > 0; i--) {
            text.append(more.get(random.nextInt(more.size())));
        }
        return text.toString();
    }

    private String broken(String text) {
        String signs = "grefltphc;0123456789abcdlm6 ";
        StringBuilder b = new StringBuilder(text);
        int at = random.nextInt(b.length());
        char sign = signs.charAt(random.nextInt(signs.length()));
        switch (random.nextInt(3)) {
            case 0:
                b.setCharAt(at, sign);
                break;
            case 1:
                b.deleteCharAt(at);
                break;
            default:
                b.insert(at, sign);
                b.setLength(Math.min(100, b.length()));
        }
        return b.toString();
    }

    private void call(String name, int... numbers) throws Exception {
        calls++;
        if (!name.equals("put") || numbers[0] != 7) {
            told.append(' ').append(name).append(Arrays.toString(numbers));
        }
        String got = answer(x, name, numbers);
        String want = answer(model, name, numbers);
        if (!got.equals(want)) {
            System.out.println(got + " where " + want + " is due, behind " + told);
        }
        Due.due(name + Arrays.toString(numbers), got.equals(want) ? 1 : 0, 1);
    }

    private static String answer(Object object, String name, int[] numbers) throws Exception {
        for (Method m : object.getClass().getDeclaredMethods()) {
            if (!m.getName().equals(name) || m.getParameterCount() != numbers.length) {
                continue;
            }
            try {
                return String.valueOf(((Number) m.invoke(object, Arrays.stream(numbers).boxed().toArray())).longValue());
            } catch (InvocationTargetException e) {
                return e.getCause().getClass().getName();
            }
        }
        throw new IllegalStateException("no call " + name);
    }
}
