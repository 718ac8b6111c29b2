import java.lang.reflect.Method;
import java.util.ArrayList;
import java.util.Arrays;
import java.util.List;
import java.util.Random;

/** Runs of 512 calls, the same ones each time, with the answers of the Model as those that are due. */
public final class RandomRunsTest {
    private static final int RUNS = 400;
    private static final int CALLS = 512;

    private static final String[] NAMES = {"man", "cell", "now", "month", "moves", "feigns", "undo", "brings", "putsOn",
        "carry", "lies", "word", "odds", "sees", "forget", "hards", "next", "rate", "keep", "back", "count", "trace"};

    private final Random random;
    private final CellNeighbours x = new CellNeighbours();
    private final Model model = new Model();
    private final StringBuilder told = new StringBuilder();
    private int calls = 0;
    private boolean isRight = true;

    private RandomRunsTest(long seed) {
        random = new Random(seed);
    }

    public static void main(String[] args) throws ReflectiveOperationException {
        for (int run = 1; run <= RUNS; run++) {
            new RandomRunsTest(run).run(run);
        }
        Due.end("RandomRunsTest");
    }

    private void run(int run) throws ReflectiveOperationException {
        while (calls < CALLS && isRight) {
            int sort = random.nextInt(40);
            if (calls == 0 || sort == 0) {
                types(goodText());
                ask("gaol");
            } else if (sort == 1) {
                types(spoilt(goodText()));
                ask("gaol");
                ask("clear");
            } else if (sort == 2 && random.nextInt(20) == 0) {
                types(" ".repeat(100) + goodText());
                ask("type", 300);
                ask("gaol");
                ask("clear");
            } else {
                askAny();
            }
        }
        Due.holds("run " + run + ":" + (isRight ? "" : told), isRight);
    }

    private void askAny() throws ReflectiveOperationException {
        String name = random.nextInt(4) == 0
            ? List.of("month", "month", "moves", "feigns", "undo", "keep", "back").get(random.nextInt(7))
            : NAMES[random.nextInt(NAMES.length)];
        int[] a = new int[find(name).getParameterCount()];
        for (int i = 0; i < a.length; i++) {
            a[i] = name.equals("odds") && i == 1 ? number(10) : number(name.equals("keep") ? 1 : 6);
        }
        if (name.equals("sees")) {
            a[1] = random.nextInt(10) - 4;
        }
        ask(name, a);
    }

    private int number(int most) {
        int odd = random.nextInt(60);
        return odd == 0 ? -1 : odd == 1 ? Integer.MIN_VALUE : odd == 2 ? Integer.MAX_VALUE : odd == 3 ? most + 1
            : random.nextInt(most + 1);
    }

    private static Method find(String name) {
        return Arrays.stream(CellNeighbours.class.getDeclaredMethods())
            .filter(method -> method.getName().equals(name)).findAny().get();
    }

    private void ask(String name, int... a) throws ReflectiveOperationException {
        if (calls >= CALLS || !isRight) {
            return;
        }
        calls++;
        Object[] boxed = Arrays.stream(a).boxed().toArray();
        long got = ((Number) find(name).invoke(x, boxed)).longValue();
        long want = model.call(name, a);
        told.append(' ').append(name).append(Arrays.toString(a)).append('=').append(got);
        if (got != want) {
            told.append(", due is ").append(want);
            isRight = false;
        }
    }

    private void types(String text) throws ReflectiveOperationException {
        for (int i = 0; i < text.length(); i++) {
            ask("type", text.charAt(i));
        }
    }

    private String goodText() {
        int cells = random.nextInt(3) == 0 ? 6 : 2 + random.nextInt(8);
        List<String> items = new ArrayList<>();
        List<Integer> free = new ArrayList<>();
        for (int c = 0; c < cells; c++) {
            free.add(c);
        }
        int men = Math.min(cells, random.nextInt(4) == 0 ? random.nextInt(7) : 6);
        int mostYears = random.nextBoolean() ? 60 : 12;
        for (int m = 0; m < men; m++) {
            int c = free.remove(random.nextInt(free.size()));
            items.add("m" + c + " " + random.nextInt(5) + " " + random.nextInt(4) + " " + (1 + random.nextInt(mostYears)));
        }
        if (random.nextBoolean()) {
            items.add(random.nextInt(items.size() + 1), "l" + (1 + random.nextInt(3)));
        }
        if (cells != 6 || random.nextBoolean()) {
            items.add(0, "n" + cells);
        }
        StringBuilder text = new StringBuilder();
        for (String item : items) {
            text.append(blanks()).append(item).append(blanks()).append(';');
        }
        return text.append(blanks()).toString();
    }

    private String blanks() {
        return random.nextInt(8) == 0 ? " " : "";
    }

    /** One letter less, more, or another one. */
    private String spoilt(String text) {
        StringBuilder spoilt = new StringBuilder(text);
        char letter = "nml;0123456789 ?x".charAt(random.nextInt(17));
        int at = random.nextInt(text.length() + 1);
        if (at == text.length() || random.nextInt(3) == 0) {
            spoilt.insert(at, letter);
        } else if (random.nextBoolean()) {
            spoilt.setCharAt(at, letter);
        } else {
            spoilt.deleteCharAt(at);
        }
        return spoilt.toString();
    }
}
