import java.util.function.IntSupplier;
import java.util.function.Supplier;

/**
 * All that can be seen of an object. What only a call that changes the object shows (parents, lengths,
 * the query's text, contents) is asked of an object of its own, so that no answer spoils another.
 */
final class Seen {
    private Seen() {
    }

    static String all(Supplier<FileIndexer> start) {
        StringBuilder all = new StringBuilder(Check.seen(start.get()));
        all.append("\nparents").append(parents(start));
        all.append("\nlengths").append(lengths(start));
        all.append("\nquery").append(query(start));
        all.append("\nwork").append(work(start));
        all.append("\ncontents").append(contents(start));
        return all.toString();
    }

    private static String parents(Supplier<FileIndexer> start) {
        StringBuilder all = new StringBuilder();
        for (int node = 1; node <= 15; node++) {
            all.append(' ');
            for (int parent = 0; parent <= 15; parent++) {
                FileIndexer x = start.get();
                int from = node;
                int to = parent;
                all.append(answer(() -> x.move(from, to)));
            }
        }
        return all.toString();
    }

    // Cutting to more than the length is refused, and cutting to the length changes nothing.
    private static String lengths(Supplier<FileIndexer> start) {
        StringBuilder all = new StringBuilder();
        for (int node = 0; node <= 15; node++) {
            FileIndexer x = start.get();
            int file = node;
            int length = 60;
            while (length > 0 && lengthIsLess(x, file, length)) {
                length--;
            }
            all.append(' ').append(length).append(answer(() -> x.cut(file, 0)));
        }
        return all.toString();
    }

    private static boolean lengthIsLess(FileIndexer x, int file, int length) {
        return answer(() -> x.cut(file, length)).equals("A");
    }

    private static String query(Supplier<FileIndexer> start) {
        StringBuilder all = new StringBuilder();
        for (int folder = 0; folder <= 15; folder++) {
            FileIndexer x = start.get();
            int in = folder;
            all.append(' ').append(answer(() -> x.search(in))).append(' ').append(x.fault());
            all.append(' ').append(Check.results(x));
        }
        FileIndexer y = start.get();
        all.append(" and a: ").append(answer(() -> y.type('a'))).append(answer(() -> y.search(0)));
        return all.append(y.fault()).append(' ').append(Check.results(y)).toString();
    }

    private static String work(Supplier<FileIndexer> start) {
        FileIndexer x = start.get();
        return answer(() -> x.work(8)) + " " + Check.seen(x);
    }

    private static String contents(Supplier<FileIndexer> start) {
        FileIndexer all = start.get();
        StringBuilder found = new StringBuilder(" " + all.rescan() + " " + Check.seen(all));
        for (char letter = 'a'; letter <= 'z'; letter++) {
            FileIndexer x = start.get();
            answer(() -> x.search(0));
            x.rescan();
            found.append(" [").append(Check.search(x, letter + "*", 0)).append(']');
        }
        return found.toString();
    }

    /** A number, or A, S or N for an IllegalArgument-, IllegalState- or NoSuchElementException. */
    private static String answer(IntSupplier call) {
        try {
            return Integer.toString(call.getAsInt());
        } catch (RuntimeException e) {
            return e.getClass().getSimpleName().replace("Illegal", "").substring(0, 1);
        }
    }
}
