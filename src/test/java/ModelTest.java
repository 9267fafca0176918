import java.util.Random;
import java.util.function.IntSupplier;

/** Random runs of up to 512 calls, each answer compared with the model's. */
public final class ModelTest {
    private static final int RUNS = 3000;
    private static final int CALLS = 512;
    private static final int[] WILD = {Integer.MIN_VALUE, -17, -1, 0, 7, 9, 16, 17, 31, 61, 127, 256, Integer.MAX_VALUE};
    private static final String[] CONTENT = {"a", "b", "ab", "A", "B", " ", " ", "#", ";", "1", "abcdefgh", "i", "#a", "a b"};
    private static final String[] QUERY = {"a", "b", "ab", "A", " ", " ", "|", "-", "*", "\"", "\"a b\"", "\"b a\"",
        "abcdefgh", "i", "1", "a*", "-b", " | ", "a b", "\" a"};

    private final Random random;
    private final FileIndexer program = new FileIndexer();
    private final Model model = new Model();
    private final StringBuilder told = new StringBuilder();
    private int calls = 0;
    private boolean same = true;

    private ModelTest(long seed) {
        random = new Random(seed);
    }

    public static void main(String[] args) {
        for (long seed = 1; seed <= RUNS; seed++) {
            ModelTest run = new ModelTest(seed);
            run.goOn();
            if (!run.same) {
                Check.dueText("run " + seed, "as the model", "\n" + run.told);
                break;
            }
        }
        Check.end();
    }

    private void goOn() {
        while (calls < CALLS && same) {
            step();
        }
    }

    private int number(int bound) {
        return random.nextInt(40) == 0 ? WILD[random.nextInt(WILD.length)] : random.nextInt(bound);
    }

    private void step() {
        switch (random.nextInt(14)) {
            case 0, 1 -> make();
            case 2, 3 -> write();
            case 4 -> cut();
            case 5 -> remove();
            case 6 -> move();
            case 7, 8 -> work();
            case 9 -> rescanSometimes();
            case 10, 11, 12 -> search();
            default -> look();
        }
    }

    private void make() {
        int node = number(16);
        int parent = random.nextBoolean() ? 0 : number(16);
        boolean folder = random.nextInt(3) == 0;
        compare("make " + node + " " + parent + " " + folder,
            () -> program.make(node, parent, folder), () -> model.make(node, parent, folder));
    }

    private void write() {
        int file = number(16);
        for (int i = random.nextInt(5); i >= 0; i--) {
            String text = CONTENT[random.nextInt(CONTENT.length)];
            long value = random.nextInt(20) == 0 ? random.nextLong() : Check.valueOf(text);
            int n = random.nextInt(20) == 0 ? number(10) : text.length();
            compare("write " + file + " " + text + " " + n,
                () -> program.write(file, value, n), () -> model.write(file, value, n));
        }
    }

    private void cut() {
        int file = number(16);
        int n = number(random.nextBoolean() ? 3 : 61);
        compare("cut " + file + " " + n, () -> program.cut(file, n), () -> model.cut(file, n));
    }

    private void remove() {
        int node = number(16);
        compare("remove " + node, () -> program.remove(node), () -> model.remove(node));
    }

    private void move() {
        int node = number(16);
        int parent = number(16);
        compare("move " + node + " " + parent, () -> program.move(node, parent), () -> model.move(node, parent));
    }

    private void work() {
        int n = number(9);
        compare("work " + n, () -> program.work(n), () -> model.work(n));
    }

    private void rescanSometimes() {
        if (random.nextInt(4) == 0) {
            compare("rescan", program::rescan, model::rescan);
        }
    }

    private void search() {
        for (int i = random.nextInt(7); i >= 0; i--) {
            for (char c : QUERY[random.nextInt(QUERY.length)].toCharArray()) {
                type(c);
            }
        }
        if (random.nextInt(30) == 0) {
            type(number(128));
        }
        int folder = random.nextInt(3) > 0 ? 0 : number(16);
        compare("search " + folder, () -> program.search(folder), () -> model.search(folder));
        compare("fault", program::fault, model::fault);
        for (int k = 0; k < 3; k++) {
            result(k, random.nextInt(2));
        }
    }

    private void type(int code) {
        compare("type " + code, () -> program.type(code), () -> model.type(code));
    }

    private void result(int k, int what) {
        compare("result " + k + " " + what, () -> program.result(k, what), () -> model.result(k, what));
    }

    private void look() {
        int k = number(9);
        int what = number(7);
        int file = number(16);
        compare("event " + k, () -> program.event(k), () -> model.event(k));
        compare("count " + what, () -> program.count(what), () -> model.count(what));
        compare("words " + file, () -> program.words(file), () -> model.words(file));
        result(number(5), number(2));
    }

    private void compare(String call, IntSupplier byProgram, IntSupplier byModel) {
        if (calls >= CALLS || !same) {
            return;
        }
        calls++;
        String got = answerOf(byProgram);
        String want = answerOf(byModel);
        told.append(call).append(" => ").append(got).append('\n');
        if (!got.equals(want)) {
            told.append("due is ").append(want).append('\n');
            same = false;
        }
    }

    private static String answerOf(IntSupplier call) {
        try {
            return Integer.toString(call.getAsInt());
        } catch (RuntimeException e) {
            return e.getClass().getName();
        }
    }
}
