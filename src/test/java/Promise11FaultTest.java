/** Promise 11: fault, and where a query's fault is. */
public final class Promise11FaultTest {
    private static final String[] FAULTY = {
        "", " ", "   ", "|", " | a", "a|", "a| ", "a||b", "a| |b", "a |", "-", "- a", "--a", "-|a", "-*", "a -", "a - b",
        "-1", "*", "a *", "a**", "a*b", "a*\"b\"", "a*-b", "a-b", "a1", "1", "a\"b\"", "abcdefghi", "-abcdefghi",
        "abcdefghi*", "\"", "\" ", "\"\"", "\" \"", "\"a", "\"a ", "\"a b c d e\"", "\"a b c d  e", "\"a b c d",
        "\"abcdefghi\"", "\"a abcdefghi\"", "\"a*\"", "\"-a\"", "\"a|b\"", "\"a-b\"", "\"a1\"", "\"a\"b", "\"a\"*",
        "\"a\"\"b\"", "\"a\"-b", "-\"\"", "-\"a", "a b|c;", "a;|", "a @", "a [", "a `", "a {", "~", "\"a\" b\"",
        "a|b|", "a|-|b", "\"a b|c\"", "!", "a,b",
    };
    private static final int[] PLACES = {
        0, 1, 3, 0, 1, 2, 3, 2, 3, 3, 1, 1, 1, 1, 1, 3, 3,
        1, 0, 2, 2, 2, 2, 2, 1, 1, 0, 1, 8, 9,
        8, 1, 2, 1, 2, 2, 3, 9, 10, 8,
        9, 11, 2, 1, 2, 2, 2, 3, 3,
        3, 3, 2, 3, 5, 1, 2, 2, 2, 2, 0, 5,
        4, 3, 4, 0, 1,
    };
    private static final String[] SOUND = {
        "a", " a ", "a b", "a  b", "a|b", "a | b", " a|b ", "a*", "a* b*", "-a", "-a*", "-\"a\"", "\"a\"", "\" a \"",
        "\"a b c d\"", "\"a  b  c  d \"", "abcdefgh", "abcdefgh*", "\"abcdefgh abcdefgh\"", "Az zA", "a|b|c|-d",
        "\"a\"|b", "a*|b", "\"a\" \"b\"", "-a -b", "a -b|-c d",
    };

    public static void main(String[] args) {
        Check.due("places", FAULTY.length, PLACES.length);
        for (int i = 0; i < FAULTY.length; i++) {
            Check.finds(new FileIndexer(), FAULTY[i], "fault at " + PLACES[i]);
        }
        for (String query : SOUND) {
            Check.finds(new FileIndexer(), query, "");
        }
        tellsOfTheLastSearch();
        Check.end();
    }

    private static void tellsOfTheLastSearch() {
        FileIndexer x = new FileIndexer();
        Check.due("before the first", -1, x.fault());
        Check.type(x, "ab1");
        Check.due("typed only", -1, x.fault());
        Check.thrown(x, "no folder", Check.NO_SUCH, y -> y.search(3));
        Check.due("before the first that had a folder", -1, x.fault());
        Check.thrown(x, "a fault", Check.ARGUMENT, y -> y.search(0));
        Check.due("the fault", 2, x.fault());
        Check.type(x, "ab");
        Check.thrown(x, "no folder", Check.NO_SUCH, y -> y.search(3));
        Check.due("still the fault", 2, x.fault());
        Check.due("a sound query", 0, x.search(0));
        Check.due("no fault", -1, x.fault());
    }
}
