/** Promises 1 to 3: a new object, word, about. */
final class WordsTest {
    private WordsTest() {
    }

    public static void main(String[] args) {
        promise01NewObject();
        promise02Word();
        promise02WrongWords();
        promise02ThirtyWords();
        promise03About();
        promise03Uses();
        Check.end();
    }

    private static void promise01NewObject() {
        RhymeTax x = new RhymeTax();
        for (int what = 0; what < 7; what++) {
            Check.same("count of a new object", x.count(what), 0);
        }
        Check.noIndex("no word", () -> x.about(0, 0));
        Check.noIndex("no line", () -> x.told(0, 0));
        RhymeTax other = new RhymeTax();
        x.word(1, 0, 0, 0, true);
        x.line(0, 1, 0);
        Check.same("another object has words of its own", other.count(0), 0);
        Check.same("another object has lines of its own", other.count(1), 0);
    }

    private static void promise02Word() {
        RhymeTax x = new RhymeTax();
        Check.same("first word", x.word(1, 0, 0, 0, true), 0);
        Check.same("second word", x.word(4, 15, 9, 9, false), 1);
        Check.same("the same again is another word", x.word(4, 15, 9, 9, false), 2);
        Check.same("words", x.count(0), 3);
    }

    private static void promise02WrongWords() {
        RhymeTax x = new RhymeTax();
        int[][] wrong = {
            {0, 0, 0, 0}, {5, 0, 0, 0}, {-1, 0, 0, 0}, {33, 1, 0, 0}, {Integer.MAX_VALUE, 0, 0, 0},
            {1, 2, 0, 0}, {2, 4, 0, 0}, {3, 8, 0, 0}, {4, 16, 0, 0}, {4, -1, 0, 0}, {1, Integer.MIN_VALUE, 0, 0},
            {1, 0, -1, 0}, {1, 0, 10, 0}, {1, 0, 0, -1}, {1, 0, 0, 10}, {1, 0, 0, Integer.MIN_VALUE},
        };
        for (int[] w : wrong) {
            Check.noArgument("wrong word", () -> x.word(w[0], w[1], w[2], w[3], true));
        }
        Check.same("none was told", x.count(0), 0);
        for (int syllables = 1; syllables <= 4; syllables++) {
            Check.same("all stressed", x.word(syllables, (1 << syllables) - 1, 0, 9, false), syllables - 1);
        }
    }

    private static void promise02ThirtyWords() {
        RhymeTax x = new RhymeTax();
        for (int i = 0; i < 30; i++) {
            Check.same("word", x.word(1 + i % 4, i % 2, i % 10, 9 - i % 10, i % 3 == 0), i);
        }
        long before = x.digest();
        Check.noState("31st word", () -> x.word(1, 0, 0, 0, true));
        Check.noArgument("a wrong 31st word", () -> x.word(0, 0, 0, 0, true));
        Check.same("words", x.count(0), 30);
        Check.same("nothing is changed", x.digest(), before);
        Check.same("the last one's syllables", x.about(29, 0), 2);
        Check.noIndex("word 30", () -> x.about(30, 0));
    }

    private static void promise03About() {
        RhymeTax x = new RhymeTax();
        x.word(3, 6, 7, 2, true);
        x.word(4, 9, 0, 8, false);
        int[][] due = {{3, 6, 7, 2, 1, 0}, {4, 9, 0, 8, 0, 0}};
        for (int word = 0; word < 2; word++) {
            for (int what = 0; what < 6; what++) {
                Check.same("about " + word + " " + what, x.about(word, what), due[word][what]);
            }
        }
        Check.noIndex("about 6", () -> x.about(0, 6));
        Check.noIndex("about -1", () -> x.about(0, -1));
        Check.noIndex("word 2", () -> x.about(2, 0));
        Check.noIndex("word -1", () -> x.about(-1, 0));
        Check.noIndex("word MIN", () -> x.about(Integer.MIN_VALUE, 5));
        Check.noIndex("what MAX", () -> x.about(0, Integer.MAX_VALUE));
    }

    private static void promise03Uses() {
        RhymeTax x = new RhymeTax();
        x.word(1, 0, 0, 1, true);
        x.word(1, 0, 0, 1, true);
        x.line(0, 1, 0);
        x.line(0, 1, 0);
        x.write(0, 0, 0);
        x.write(0, 1, 0);
        x.write(1, 0, 0);
        Check.same("uses", x.about(0, 5), 3);
        Check.same("a like word has none", x.about(1, 5), 0);
        x.write(0, 0, 1);
        Check.same("uses after it was replaced", x.about(0, 5), 2);
        Check.same("uses of the other one", x.about(1, 5), 1);
        x.strike(1);
        Check.same("uses after it was struck", x.about(0, 5), 1);
    }
}
