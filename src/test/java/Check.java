import java.util.NoSuchElementException;
import java.util.function.Supplier;
import java.util.function.ToIntFunction;

/** What the tests share: due answers, due exceptions, and short ways to write and to type texts. */
final class Check {
    static final Class<?> NO_SUCH = NoSuchElementException.class;
    static final Class<?> ARGUMENT = IllegalArgumentException.class;
    static final Class<?> STATE = IllegalStateException.class;

    private static int wrong = 0;

    private Check() {
    }

    static void due(String call, long want, long got) {
        if (got != want) {
            wrong++;
            System.out.println(call + " answered " + got + ", due is " + want);
        }
    }

    static void dueText(String call, String want, String got) {
        if (!want.equals(got)) {
            wrong++;
            System.out.println(call + " answered " + got + ", due is " + want);
        }
    }

    /**
     * The exception must be just of this class, and nothing that can be seen may have changed. Each
     * look has an object of its own, for all that is looked at would go far beyond 512 calls.
     */
    static void refused(Supplier<FileIndexer> start, String call, Class<?> want,
            ToIntFunction<FileIndexer> run) {
        thrown(start.get(), call, want, run);
        dueText("the state behind " + call, Seen.all(start), Seen.all(() -> tried(start.get(), run)));
    }

    private static FileIndexer tried(FileIndexer x, ToIntFunction<FileIndexer> run) {
        try {
            run.applyAsInt(x);
        } catch (RuntimeException e) {
            // Which one it is has been looked at already.
        }
        return x;
    }

    static void thrown(FileIndexer x, String call, Class<?> want, ToIntFunction<FileIndexer> run) {
        String got;
        try {
            got = "the answer " + run.applyAsInt(x);
        } catch (RuntimeException e) {
            got = e.getClass().getName();
        }
        dueText(call, want.getName(), got);
    }

    static void write(FileIndexer x, int file, String text) {
        for (int from = 0; from < text.length(); from += 8) {
            String part = text.substring(from, Math.min(text.length(), from + 8));
            x.write(file, valueOf(part), part.length());
        }
    }

    static long valueOf(String part) {
        long value = 0;
        for (char c : part.toCharArray()) {
            value = value << 8 | c;
        }
        return value;
    }

    static void type(FileIndexer x, String text) {
        for (char c : text.toCharArray()) {
            x.type(c);
        }
    }

    /** The results as "file:score file:score", or "fault at place". */
    static String search(FileIndexer x, String query, int folder) {
        type(x, query);
        int found;
        try {
            found = x.search(folder);
        } catch (IllegalArgumentException e) {
            return "fault at " + x.fault();
        }
        due("fault() behind " + query, -1, x.fault());
        String all = results(x);
        due("search for " + query, all.isEmpty() ? 0 : all.split(" ").length, found);
        return all;
    }

    static void finds(FileIndexer x, String query, String want) {
        dueText("search for <" + query + ">", want, search(x, query, 0));
    }

    static String results(FileIndexer x) {
        StringBuilder all = new StringBuilder();
        for (int k = 0; hasResult(x, k); k++) {
            all.append(k == 0 ? "" : " ").append(x.result(k, 0)).append(':').append(x.result(k, 1));
        }
        return all.toString();
    }

    /** The events as "kind/file kind/file". */
    static String events(FileIndexer x) {
        StringBuilder all = new StringBuilder();
        for (int k = 0; k < x.count(3); k++) {
            int event = x.event(k);
            all.append(k == 0 ? "" : " ").append(event / 16).append('/').append(event % 16);
        }
        return all.toString();
    }

    static String seen(FileIndexer x) {
        StringBuilder all = new StringBuilder();
        for (int what = 0; what <= 6; what++) {
            all.append(x.count(what)).append(' ');
        }
        all.append("| ").append(x.fault()).append(" | ").append(results(x));
        all.append(" | ").append(events(x)).append(" |");
        for (int file = 0; file < 16; file++) {
            all.append(' ').append(wordsOrNone(x, file));
        }
        return all.toString();
    }

    static int wordsOrNone(FileIndexer x, int file) {
        try {
            return x.words(file);
        } catch (NoSuchElementException e) {
            return -1;
        }
    }

    private static boolean hasResult(FileIndexer x, int k) {
        try {
            x.result(k, 0);
            return true;
        } catch (NoSuchElementException e) {
            return false;
        }
    }

    static void end() {
        System.out.println(wrong == 0 ? "all as due" : wrong + " not as due");
        if (wrong != 0) {
            System.exit(1);
        }
    }
}
