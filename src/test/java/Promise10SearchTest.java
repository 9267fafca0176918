/** Promise 10: search, and what queries mean. */
public final class Promise10SearchTest {
    public static void main(String[] args) {
        findsWordsAndBeginnings();
        findsPhrases();
        leavesOutTheUnwanted();
        addsAlternatives();
        ranks();
        looksIntoFolders();
        takesWhatTheIndexHas();
        refusesWithoutFolder();
        emptiesTheQuery();
        longestQueries();
        Check.end();
    }

    /** The files 1, 2, .. with these texts, all of them read. */
    static FileIndexer of(String... texts) {
        FileIndexer x = new FileIndexer();
        for (int i = 0; i < texts.length; i++) {
            x.make(i + 1, 0, false);
            Check.write(x, i + 1, texts[i]);
        }
        x.rescan();
        return x;
    }

    private static void findsWordsAndBeginnings() {
        FileIndexer x = of("car cars card", "#CAR;scar", "c", "abcdefghij");
        Check.finds(x, "car", "2:3 1:1");
        Check.finds(x, "CaR", "2:3 1:1");
        Check.finds(x, "car*", "1:3 2:3");
        Check.finds(x, "cars*", "1:1");
        Check.finds(x, "c*", "1:3 2:3 3:1");
        Check.finds(x, "abcdefgh", "4:1");
        Check.finds(x, "abcdefgh*", "4:1");
        Check.finds(x, "abcdefg", "");
        Check.finds(x, "abcdefg*", "4:1");
        Check.finds(x, "car cars", "1:2");
        Check.finds(x, "car car", "2:6 1:2");
        Check.finds(x, "car* c*", "1:6 2:6");
        Check.finds(x, "none", "");
        Check.finds(of("abcdefgh", "abcdefgi", "abcdefg"), "abcdefgi", "2:1");
        Check.finds(of("abcdefgh", "abcdefgi", "abcdefg"), "abcdefgi*", "2:1");
    }

    private static void findsPhrases() {
        FileIndexer x = of("a b a b a", "#x a;b", "b a");
        Check.finds(x, "\"a b\"", "2:3 1:2");
        Check.finds(x, "\"a b a\"", "1:2");
        Check.finds(x, "\"a b a b\"", "1:1");
        Check.finds(x, "\"b a b a\"", "1:1");
        Check.finds(x, "\"B  A\"", "1:2 3:1");
        Check.finds(x, "\"a\"", "1:3 2:3 3:1");
        Check.finds(x, "\" x a b \"", "2:3");
        Check.finds(x, "\"a b\" \"b a\"", "1:4");
        Check.finds(x, "\"x b\"", "");
        Check.finds(of("ab", "a bc"), "\"a b\"", "");
    }

    private static void leavesOutTheUnwanted() {
        FileIndexer x = of("red car", "red cat", "", "blue");
        Check.finds(x, "red -cat", "1:1");
        Check.finds(x, "-cat red", "1:1");
        Check.finds(x, "-red", "3:0 4:0");
        Check.finds(x, "-ca*", "3:0 4:0");
        Check.finds(x, "red -\"red car\"", "2:1");
        Check.finds(x, "-\"car red\"", "1:0 2:0 3:0 4:0");
        Check.finds(x, "-red -blue", "3:0");
        Check.finds(x, "red -red", "");
    }

    private static void addsAlternatives() {
        FileIndexer x = of("a b", "a c", "b c", "d");
        Check.finds(x, "a|b", "1:2 2:1 3:1");
        Check.finds(x, "a | a", "1:2 2:2");
        Check.finds(x, "a b|c", "1:2 2:1 3:1");
        Check.finds(x, "a -b|d", "2:1 4:1");
        Check.finds(x, "-a|c", "2:1 3:1 4:0");
        Check.finds(x, "-a|a", "1:1 2:1 3:0 4:0");
        Check.finds(x, "x|-b|c", "2:1 3:1 4:0");
        Check.finds(x, "a b|a -c|b -a", "1:3 3:1");
    }

    private static void ranks() {
        FileIndexer x = of("a", "#a", "b", "a a", "a a a", "a");
        Check.finds(x, "a", "2:3 5:3 4:2 1:1 6:1");
        Check.finds(x, "-b|a", "2:3 5:3 4:2 1:1 6:1");
        Check.finds(x, "-zz", "1:0 2:0 3:0 4:0 5:0 6:0");
    }

    private static void looksIntoFolders() {
        FileIndexer x = new FileIndexer();
        x.make(1, 0, true);
        x.make(2, 1, true);
        x.make(3, 2, false);
        x.make(4, 1, false);
        x.make(5, 0, false);
        x.write(3, 'a', 1);
        x.write(4, 'a', 1);
        x.write(5, 'a', 1);
        x.work(8);
        Check.dueText("in 1", "3:1 4:1", Check.search(x, "a", 1));
        Check.dueText("in 2", "3:1", Check.search(x, "a", 2));
        Check.dueText("in the root", "3:1 4:1 5:1", Check.search(x, "a", 0));
        x.move(5, 2);
        x.move(4, 0);
        Check.dueText("in 1 after moves", "3:1 5:1", Check.search(x, "a", 1));
        x.remove(3);
        Check.dueText("a removed file is not in a folder", "5:1", Check.search(x, "a", 1));
        Check.dueText("but in the root", "3:1 4:1 5:1", Check.search(x, "a", 0));
        x.make(3, 0, true);
        x.move(5, 3);
        Check.dueText("a folder is not within itself", "5:1", Check.search(x, "a", 3));
        x.move(3, 2);
        Check.dueText("its number counts, be it a folder", "3:1 5:1", Check.search(x, "a", 2));
    }

    private static void takesWhatTheIndexHas() {
        FileIndexer x = new FileIndexer();
        x.make(1, 0, false);
        x.write(1, 'a', 1);
        Check.finds(x, "a", "");
        Check.finds(x, "-b", "");
        x.work(1);
        x.write(1, 'b', 1);
        Check.finds(x, "a", "1:1");
        Check.finds(x, "ab", "");
        for (int file = 2; file <= 10; file++) {
            x.make(file, 0, false);
        }
        Check.due("LOST", 1, x.count(4));
        Check.finds(x, "a", "1:1");
        x.remove(1);
        Check.finds(x, "a", "1:1");
    }

    private static FileIndexer found() {
        FileIndexer x = of("a b", "a");
        Check.search(x, "a", 0);
        Check.type(x, "b|");
        return x;
    }

    private static void refusesWithoutFolder() {
        for (int folder : new int[] {-1, 1, 5, 16, Integer.MIN_VALUE, Integer.MAX_VALUE}) {
            Check.refused(Promise10SearchTest::found, "search in " + folder, Check.NO_SUCH,
                x -> x.search(folder));
        }
        FileIndexer x = of("ab");
        Check.type(x, "a");
        Check.thrown(x, "search in a file", Check.NO_SUCH, y -> y.search(1));
        Check.finds(x, "b", "1:1");
    }

    private static void emptiesTheQuery() {
        FileIndexer x = found();
        Check.thrown(x, "a fault", Check.ARGUMENT, y -> y.search(0));
        Check.due("empty behind a fault", 0, x.count(5));
        Check.dueText("no results", "", Check.results(x));
        Check.due("found", 1, findsB(x));
        Check.due("empty behind a search", 0, x.count(5));
        Check.finds(x, "zz", "");
        Check.due("empty behind no results", 0, x.count(5));
    }

    private static int findsB(FileIndexer x) {
        x.type('b');
        return x.search(0);
    }

    private static void longestQueries() {
        FileIndexer x = of("#" + "a ".repeat(29) + "a");
        Check.finds(x, "a|".repeat(19) + "a", "1:1800");
        Check.finds(x, "a ".repeat(20), "1:1800");
        Check.finds(x, "a|".repeat(20), "fault at 40");
        Check.finds(x, "a|".repeat(19) + "a*", "1:1800");
        Check.finds(x, " ".repeat(40), "fault at 40");
    }
}
