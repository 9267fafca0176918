/** Terms: what a query is, its hits, what fits it, scores and the order of results. */
public final class TermsQueryTest {
    public static void main(String[] args) {
        upToForty();
        alternativesPartedByBars();
        termsPartedByBlanks();
        wordsOfOneToEight();
        aWordAndStar();
        phrasesOfOneToFour();
        blanksBetween();
        hitsOfWords();
        hitsOfBeginnings();
        hitsOfPhrases();
        allTermsHaveAHit();
        noneWithMinusHas();
        fitsAnAlternative();
        scoreIsTheSum();
        phrasesWeighTheirFirstWords();
        onlyTermsWithMinus();
        byFallingScoreThenRisingNumber();
        Check.end();
    }

    /** The files 1, 2, .. with these texts, all of them read. */
    static FileIndexer of(String... texts) {
        FileIndexer x = new FileIndexer();
        for (int i = 0; i < texts.length; i++) {
            x.make(i + 1, 0, false);
            Check.write(x, i + 1, texts[i]);
        }
        x.rescan();
        return x;
    }

    /** "A QUERY is a text of up to 40 codes" */
    private static void upToForty() {
        FileIndexer x = of("end e");
        Check.finds(x, "e", "1:1");
        Check.finds(x, " ".repeat(36) + "end", "1:1");
        Check.finds(x, " ".repeat(37) + "end", "1:1");
        Check.finds(x, "end" + " ".repeat(37), "1:1");
        Check.finds(x, "en*" + " ".repeat(34) + "|-e", "1:1");
    }

    /** "ALTERNATIVES parted by |" */
    private static void alternativesPartedByBars() {
        FileIndexer x = of("a", "b", "c", "d");
        Check.finds(x, "a", "1:1");
        Check.finds(x, "a|b", "1:1 2:1");
        Check.finds(x, "d|c|b|a", "1:1 2:1 3:1 4:1");
        Check.finds(x, "a|".repeat(19) + "a", "1:20");
        Check.finds(x, "a|".repeat(18) + "a| b", "1:19 2:1");
        Check.finds(x, "z|".repeat(19) + "d", "4:1");
    }

    /** "an ALTERNATIVE is TERMS parted by blanks, at least one" */
    private static void termsPartedByBlanks() {
        FileIndexer x = of("a", "a b", "a b c d");
        Check.finds(x, "a", "1:1 2:1 3:1");
        Check.finds(x, "a b", "2:2 3:2");
        Check.finds(x, "d c b a", "3:4");
        Check.finds(x, "a ".repeat(20), "1:20 2:20 3:20");
        Check.finds(x, "a ".repeat(19) + "b", "2:20 3:20");
        Check.finds(x, "\"a\" b \"c d\"", "3:3");
    }

    /** "a word (letters alone, 1 to 8)" */
    private static void wordsOfOneToEight() {
        String letters = "abcdefgh";
        for (int length = 1; length <= 8; length++) {
            FileIndexer x = of("none", letters.substring(0, length));
            Check.finds(x, letters.substring(0, length), "2:1");
            Check.finds(x, "-" + letters.substring(0, length), "1:0");
        }
        Check.finds(of("a"), "abcdefghi", "fault at 8");
    }

    /** "or a word and * right behind it" */
    private static void aWordAndStar() {
        FileIndexer x = of("a", "ab", "b");
        Check.finds(x, "a*", "1:1 2:1");
        Check.finds(x, "-a*", "3:0");
        Check.finds(x, "a* b*", "");
        Check.finds(x, "a*|b*", "1:1 2:1 3:1");
        Check.finds(x, "a *", "fault at 2");
    }

    /** "a PHRASE: the code of a quotation mark, 1 to 4 words parted by blanks, another one" */
    private static void phrasesOfOneToFour() {
        FileIndexer x = of("a b c d e");
        Check.finds(x, "\"a\"", "1:1");
        Check.finds(x, "\"a b\"", "1:1");
        Check.finds(x, "\"a b c\"", "1:1");
        Check.finds(x, "\"a b c d\"", "1:1");
        Check.finds(x, "\"b c d e\"", "1:1");
        Check.finds(x, "-\"a b c d\"", "");
        Check.finds(x, "-\"a b c e\"", "1:0");
        Check.finds(x, "\"\"", "fault at 1");
        Check.finds(x, "\"a b c d e\"", "fault at 9");
        Check.finds(of("abcdefgh ".repeat(4)), "-\"abcdefgh abcdefgh abcdefgh abcdefgh\"", "");
        Check.finds(of("abcdefgh ".repeat(4)), "\"abcdefgh abcdefgh abcdefgh abcdefgh\" a*", "1:5");
    }

    /** "Blanks may stand anywhere between these." */
    private static void blanksBetween() {
        FileIndexer x = of("a b", "b a");
        String[] same = {"\"a b\"|-a", " \"a b\"|-a", "\" a b\"|-a", "\"a  b\"|-a", "\"a b \"|-a", "\"a b\" |-a",
            "\"a b\"| -a", "\"a b\"|-a ", "  \"  a   b  \"  |  -a  "};
        for (String query : same) {
            Check.finds(x, query, "1:1");
        }
        Check.finds(x, "\"a b\"|- a", "fault at 7");
        Check.finds(x, "  a*   -\" b   a \"  ", "1:1");
    }

    /** "A word's HITS in a file of the index are its places" */
    private static void hitsOfWords() {
        FileIndexer x = of("car cars card", "#CAR;scar car", "c");
        Check.finds(x, "car", "2:4 1:1");
        Check.finds(x, "CaR", "2:4 1:1");
        Check.finds(x, "cars", "1:1");
        Check.finds(x, "scar", "2:1");
        Check.finds(x, "c", "3:1");
        Check.finds(x, "none", "");
    }

    /** "for a word and * those of all words that begin with it" */
    private static void hitsOfBeginnings() {
        FileIndexer x = of("car cars card", "#CAR;scar", "c", "abcdefghij");
        Check.finds(x, "car*", "1:3 2:3");
        Check.finds(x, "cars*", "1:1");
        Check.finds(x, "carsx*", "");
        Check.finds(x, "c*", "1:3 2:3 3:1");
        Check.finds(x, "ar*", "");
        Check.finds(x, "abcdefg*", "4:1");
        Check.finds(x, "abcdefgh*", "4:1");
        Check.finds(x, "abcdefgx*", "");
    }

    /** "a phrase's hits are the places at which its words stand one behind the other" */
    private static void hitsOfPhrases() {
        FileIndexer x = of("a b a b a", "b a", "a a a a");
        Check.finds(x, "\"a b\"", "1:2");
        Check.finds(x, "\"b a\"", "1:2 2:1");
        Check.finds(x, "\"a b a\"", "1:2");
        Check.finds(x, "\"a b a b\"", "1:1");
        Check.finds(x, "\"b a b a\"", "1:1");
        Check.finds(x, "\"a a\"", "3:3");
        Check.finds(x, "\"a a a\"", "3:2");
        Check.finds(x, "\"a a a a\"", "3:1");
        Check.finds(x, "\"b b\"", "");
        Check.finds(of("ab", "a bc", "a x b"), "\"a b\"", "");
        Check.finds(of("", "a", "a b", "a b c"), "\"a b c\"", "4:1");
        Check.finds(of("a b c"), "\"b c d\"", "");
        Check.finds(of("a b", "c d"), "\"b c\"", "");
    }

    /** "A file FITS an alternative if all its terms without - have a hit" */
    private static void allTermsHaveAHit() {
        FileIndexer x = of("a b c", "a b", "a", "");
        Check.finds(x, "a b c", "1:3");
        Check.finds(x, "c b", "1:2");
        Check.finds(x, "a b", "1:2 2:2");
        Check.finds(x, "z a b c", "");
        Check.finds(x, "a b c z", "");
        Check.finds(x, "a \"b c\"", "1:2");
        Check.finds(x, "a z*", "");
    }

    /** "and none with - has" */
    private static void noneWithMinusHas() {
        FileIndexer x = of("red car", "red cat", "", "blue");
        Check.finds(x, "red -cat", "1:1");
        Check.finds(x, "-cat red", "1:1");
        Check.finds(x, "red -car -cat", "");
        Check.finds(x, "red -ca*", "");
        Check.finds(x, "red -\"red car\"", "2:1");
        Check.finds(x, "red -\"car red\"", "1:1 2:1");
        Check.finds(x, "red -red", "");
        Check.finds(x, "red -blue", "1:1 2:1");
    }

    /** "it fits a query if it fits an alternative" */
    private static void fitsAnAlternative() {
        FileIndexer x = of("a b", "a c", "b c", "d");
        Check.finds(x, "a b|c", "1:2 2:1 3:1");
        Check.finds(x, "z|d", "4:1");
        Check.finds(x, "d|z", "4:1");
        Check.finds(x, "y|z", "");
        Check.finds(x, "a -b|d", "2:1 4:1");
        Check.finds(x, "-a|c", "2:1 3:1 4:0");
    }

    /** "Its SCORE is the sum, over all alternatives that it fits and all their terms without -, of the weights" */
    private static void scoreIsTheSum() {
        FileIndexer x = of("#a b;a", "a", "b c");
        Check.finds(x, "a", "1:4 2:1");
        Check.finds(x, "a a", "1:8 2:2");
        Check.finds(x, "a|a", "1:8 2:2");
        Check.finds(x, "a b", "1:7");
        Check.finds(x, "a b|a", "1:11 2:1");
        Check.finds(x, "a c|b", "1:3 3:1");
        Check.finds(x, "a -b|b -a|c", "3:2 2:1");
        Check.finds(x, "a* b*", "1:7");
        Check.finds(of("#" + "a ".repeat(29) + "a"), "a|".repeat(19) + "a*", "1:1800");
        Check.finds(of("#" + "a ".repeat(29) + "a"), "a ".repeat(20), "1:1800");
    }

    /** "(for a phrase those of its first words)" */
    private static void phrasesWeighTheirFirstWords() {
        FileIndexer x = of("#x a;b a b");
        Check.finds(x, "\"x\"", "1:3");
        Check.finds(x, "\"a b\"", "1:4");
        Check.finds(x, "\"x a b\"", "1:3");
        Check.finds(x, "\"x a b a\"", "1:3");
        Check.finds(x, "\"b a\"", "1:1");
        Check.finds(x, "\"a b\" \"x a\"", "1:7");
    }

    /** "those of an alternative that has only terms with - have the score 0 of it" */
    private static void onlyTermsWithMinus() {
        FileIndexer x = of("a b", "a c", "b c", "", "d");
        Check.finds(x, "-a", "3:0 4:0 5:0");
        Check.finds(x, "-a -c", "4:0 5:0");
        Check.finds(x, "-z", "1:0 2:0 3:0 4:0 5:0");
        Check.finds(x, "-a|-b", "2:0 3:0 4:0 5:0");
        Check.finds(x, "-a|d", "5:1 3:0 4:0");
        Check.finds(x, "d|-a", "5:1 3:0 4:0");
        Check.finds(x, "-a|a", "1:1 2:1 3:0 4:0 5:0");
        Check.finds(x, "-a*|-\"b c\"", "1:0 2:0 3:0 4:0 5:0");
        Check.finds(new FileIndexer(), "-a", "");
    }

    /** "RESULTS are the files of the index that fit, by falling score, then rising number" */
    private static void byFallingScoreThenRisingNumber() {
        FileIndexer x = of("a", "#a", "b", "a a", "a a a", "a");
        Check.finds(x, "a", "2:3 5:3 4:2 1:1 6:1");
        Check.finds(x, "-b|a", "2:3 5:3 4:2 1:1 6:1");
        Check.finds(x, "-zz", "1:0 2:0 3:0 4:0 5:0 6:0");
        FileIndexer all = new FileIndexer();
        for (int file = 15; file >= 1; file--) {
            all.make(file, 0, false);
            Check.write(all, file, "a ".repeat(1 + file % 3));
            all.work(1);
        }
        Check.finds(all, "a", "2:3 5:3 8:3 11:3 14:3 1:2 4:2 7:2 10:2 13:2 3:1 6:1 9:1 12:1 15:1");
        Check.finds(all, "-b", "1:0 2:0 3:0 4:0 5:0 6:0 7:0 8:0 9:0 10:0 11:0 12:0 13:0 14:0 15:0");
    }
}
