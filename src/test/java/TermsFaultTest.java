/** Terms: where the fault of a query is. */
public final class TermsFaultTest {
    private static final String LETTERS = "abcdefghijklmnopqrstuvwxyzABCDEFGHIJKLMNOPQRSTUVWXYZ";

    public static void main(String[] args) {
        theFirstThatCannotStand();
        atTheEndIfSomethingLacks();
        aNinthLetter();
        aFifthWord();
        anEmptyPhrasesSecondMark();
        aBlankBehindMinus();
        aBarWhereNoTermIs();
        theEndWhereNoTermIs();
        theFirstOfMoreFaults();
        atThePlacesOfALongQuery();
        soundOnes();
        Check.end();
    }

    private static void faulty(String query, int place) {
        Check.finds(new FileIndexer(), query, "fault at " + place);
    }

    private static void sound(String query) {
        Check.finds(new FileIndexer(), query, "");
    }

    /** "A FAULT of a query is at the first character that cannot stand where it does" */
    private static void theFirstThatCannotStand() {
        standBehind("", LETTERS + " -\"");
        standBehind("  ", LETTERS + " -\"");
        standBehind("a", LETTERS + " *|");
        standBehind("abcdefg", LETTERS + " *|");
        standBehind("abcdefgh", " *|");
        standBehind("a ", LETTERS + " -\"|");
        standBehind("a|", LETTERS + " -\"");
        standBehind("a*", " |");
        standBehind("abcdefgh*", " |");
        standBehind("-", LETTERS + "\"");
        standBehind("-a", LETTERS + " *|");
        standBehind("-a*", " |");
        standBehind("\"", LETTERS + " ");
        standBehind("\" ", LETTERS + " ");
        standBehind("-\"", LETTERS + " ");
        standBehind("\"a", LETTERS + " \"");
        standBehind("\"abcdefgh", " \"");
        standBehind("\"a ", LETTERS + " \"");
        standBehind("\"a b c ", LETTERS + " \"");
        standBehind("\"a b c d", LETTERS + " \"");
        standBehind("\"a b c d ", " \"");
        standBehind("\"a\"", " |");
        standBehind("-\"a\"", " |");
        standBehind("\"a\" ", LETTERS + " -\"|");
        standBehind("a|b", LETTERS + " *|");
    }

    /** Of all codes behind this beginning just these can stand there; then something lacks or all is well. */
    private static void standBehind(String beginning, String these) {
        for (char code = 32; code <= 126; code++) {
            FileIndexer x = new FileIndexer();
            String got = Check.search(x, beginning + code, 0);
            int end = beginning.length() + 1;
            if (these.indexOf(code) < 0) {
                Check.dueText("<" + beginning + code + ">", "fault at " + beginning.length(), got);
            } else if (!got.isEmpty()) {
                Check.dueText("<" + beginning + code + ">", "fault at " + end, got);
            }
        }
    }

    /** "or at the end if something lacks" */
    private static void atTheEndIfSomethingLacks() {
        faulty("-", 1);
        faulty("a -", 3);
        faulty("a|-", 3);
        faulty("\"", 1);
        faulty("\"  ", 3);
        faulty("-\"", 2);
        faulty("\"a", 2);
        faulty("\"a ", 3);
        faulty("\"a b c d", 8);
        faulty("\"a b c d ", 9);
        faulty("\"abcdefgh", 9);
        faulty("a \"b", 4);
    }

    /** "A word's ninth letter" */
    private static void aNinthLetter() {
        sound("abcdefgh");
        faulty("abcdefghi", 8);
        faulty("abcdefghij", 8);
        sound("-abcdefgh");
        faulty("-abcdefghi", 9);
        sound("abcdefgh*");
        faulty("abcdefghi*", 8);
        sound("a abcdefgh");
        faulty("a abcdefghi", 10);
        sound("a|abcdefgh");
        faulty("a|abcdefghi", 10);
        sound("\"abcdefgh\"");
        faulty("\"abcdefghi\"", 9);
        sound("\"a abcdefgh\"");
        faulty("\"a abcdefghi\"", 11);
        sound("\"a b c abcdefgh\"");
        faulty("\"a b c abcdefghi\"", 15);
        faulty("ABCDEFGHI", 8);
    }

    /** "a fifth word in a phrase" */
    private static void aFifthWord() {
        sound("\"a b c d\"");
        faulty("\"a b c d e\"", 9);
        faulty("\"a b c d e", 9);
        faulty("\"a b c d   efg\"", 11);
        faulty("\"a b c d abcdefghi\"", 9);
        faulty("-\"a b c d e\"", 10);
        faulty("\"ab cd ef gh ij kl\"", 13);
        sound("\"a b c d\" \"e\"");
    }

    /** "an empty phrase's second quotation mark" */
    private static void anEmptyPhrasesSecondMark() {
        faulty("\"\"", 1);
        faulty("\" \"", 2);
        faulty("\"   \"", 4);
        faulty("-\"\"", 2);
        faulty("a \"\"", 3);
        faulty("a|\"\"", 3);
        faulty("\"a\" \"\"", 5);
        sound("\"a\"");
        sound("\" a\"");
    }

    /** "a blank behind -" */
    private static void aBlankBehindMinus() {
        faulty("- a", 1);
        faulty("- ", 1);
        faulty("a - b", 3);
        faulty("a|- b", 3);
        faulty("- \"a\"", 1);
        sound("-a");
        sound("-\"a\"");
        sound(" -a");
    }

    /** "a | .. where an alternative has no term" */
    private static void aBarWhereNoTermIs() {
        faulty("|", 0);
        faulty("|a", 0);
        faulty("  |a", 2);
        faulty("a||b", 2);
        faulty("a|  |b", 4);
        faulty("a|b||", 4);
        faulty("-|a", 1);
        faulty("a|-|b", 3);
        sound("a|b");
        sound("a|-b|c");
    }

    /** "or the end where an alternative has no term" */
    private static void theEndWhereNoTermIs() {
        faulty("", 0);
        faulty(" ", 1);
        faulty("   ", 3);
        faulty("a|", 2);
        faulty("a|  ", 4);
        faulty("a|b|", 4);
        faulty("\"a\"|", 4);
        faulty("a*|", 3);
    }

    private static void theFirstOfMoreFaults() {
        faulty("1|", 0);
        faulty("a1|", 1);
        faulty("a||1", 2);
        faulty("abcdefghi 1", 8);
        faulty("\"\" \"", 1);
        faulty("- |", 1);
        faulty("a;|", 1);
        faulty("\"a|b", 2);
        faulty("a*b*c", 2);
    }

    private static void atThePlacesOfALongQuery() {
        faulty(" ".repeat(39), 39);
        faulty(" ".repeat(40), 40);
        faulty("a|".repeat(20), 40);
        faulty("a ".repeat(19) + "a-", 39);
        faulty("a ".repeat(19) + " -", 40);
        faulty("a ".repeat(19) + "|1", 39);
        faulty("\"a" + " ".repeat(38), 40);
        faulty("\"" + "a".repeat(39), 9);
        faulty("a".repeat(40), 8);
        sound("a ".repeat(20));
        sound(" a".repeat(20));
        sound("a|".repeat(19) + "a");
        sound("a|".repeat(19) + "a*");
        sound("a|".repeat(19) + "-a");
        sound("\"a\"|".repeat(9) + "\"a\"");
        sound("\"a" + " ".repeat(37) + "\"");
        sound("-\"abcdefgh abcdefgh abcdefgh abcdefgh\" a");
    }

    private static void soundOnes() {
        String[] queries = {"a", " a ", "a b", "a  b", "a|b", "a | b", " a|b ", "a*", "a* b*", "-a", "-a*", "-\"a\"",
            "\"a\"", "\" a \"", "\"a  b  c  d \"", "abcdefgh abcdefgh", "Az zA", "a|b|c|-d", "\"a\"|b", "a*|b",
            "\"a\" \"b\"", "-a -b", "a -b|-c d", "-a*|-\"b\""};
        for (String query : queries) {
            sound(query);
        }
    }
}
