import java.math.BigInteger;

/** The boundary cases that the promises 14 to 18 name, each sentence by a test of its own. */
final class WouldBeEdgesTest {
    private static final int MIN = Integer.MIN_VALUE;
    private static final int MAX = Integer.MAX_VALUE;

    private WouldBeEdgesTest() {
    }

    public static void main(String[] args) {
        promise14InThePlaceOfTheOneThatDoes();
        promise14AllTaxes();
        promise14NothingIsChanged();
        promise14NoSuchLine();
        promise14NoSuchPlace();
        promise14NoSuchWord();
        promise15TheTaxesAreTheLeast();
        promise15OfSeveralTheSmallestNumber();
        promise15TheOnlyWord();
        promise15TheLastOfThirty();
        promise15NothingIsChanged();
        promise15NoSuchLine();
        promise15NoSuchPlace();
        promise16MinusOneIfByNoneTheyAreLess();
        promise16TenTimesTheLineAndThePlace();
        promise16TheTaxesAreTheLeast();
        promise16OfSeveralTheLeastNumber();
        promise16NothingIsChanged();
        promise17NoughtIfThereAreNone();
        promise17DividedByTheLines();
        promise18ANewObject();
        promise18WordsAlone();
        promise18LinesAlone();
        promise18InItsOrder();
        promise18WrapsAround();
        Check.end();
    }

    /** 0 a trochee, 1 and 2 iambs that don't rhyme, 3 two iambs in one word. */
    private static RhymeTax fourWords() {
        return Poems.of(new int[] {2, 1, 1, 1, 0}, new int[] {2, 2, 2, 2, 0}, new int[] {2, 2, 3, 3, 0},
                new int[] {4, 10, 4, 4, 0});
    }

    /** Ten lines of eight syllables, all as the metre asks: the word 0 without stress, the word 1 with it. */
    private static RhymeTax faultless() {
        RhymeTax x = Poems.of(new int[] {1, 0, 1, 1, 0}, new int[] {1, 1, 2, 2, 0});
        for (int line = 0; line < 10; line++) {
            Poems.line(x, 0, 4, 0, 0, 1, 0, 1, 0, 1, 0, 1);
        }
        return x;
    }

    /** If this word stood there in the place of the one that does. */
    private static void promise14InThePlaceOfTheOneThatDoes() {
        RhymeTax x = faultless();
        Check.same("all taxes", x.count(6), 80);
        for (int place = 0; place < 8; place++) {
            int other = 1 - place % 2;
            Check.same("the same word at " + place, x.tries(9, place, 1 - other), 80);
            Check.same("the other one at " + place, x.tries(9, place, other), other == 1 ? 80 + 5 : 80 + 1);
            Check.same("the same in the line 0", x.tries(0, place, other), other == 1 ? 80 + 5 : 80 + 1);
        }
    }

    /** All taxes, added: those of the lines behind, and of the lines that rhyme with it, too. */
    private static void promise14AllTaxes() {
        RhymeTax x = fourWords();
        x.word(2, 2, 2, 2, false);
        Poems.line(x, 0, 1, 0, 0);
        Poems.line(x, 0, 1, 1, 0);
        Poems.line(x, 0, 1, 0, 1);
        Check.same("two trochees and an iamb", x.count(6), 8 + 8 + 2);
        Check.same("what goes over is right, what is lost behind does not count", x.tries(0, 0, 3), 2 + 2 + 8);
        Check.same("the rhyme of a line behind", x.tries(0, 0, 4), 2 + 8 + 0);
        Check.same("its own rhyme", x.tries(2, 0, 4), 8 + 8 + 2);
        x.write(0, 0, 1);
        Check.same("its own rhyme then", x.tries(2, 0, 4), 2 + 8 + 0);
        Check.same("the line between has another mark", x.tries(1, 0, 4), 2 + 2 + 2);
        x.strike(1);
        Check.same("a line without words owes its foot", x.tries(0, 0, 3), 2 + 1 + 2);
    }

    /** (Nothing is changed). */
    private static void promise14NothingIsChanged() {
        RhymeTax x = Poems.full();
        for (int word = 0; word < 30; word++) {
            int tried = word;
            Check.unchanged("tries " + word, x, () -> x.tries(tried % 10, tried % 8, tried));
            Check.same("the word there", x.written(word % 10, word % 8), (word % 10 * 8 + word % 8) % 30);
        }
        Check.same("words in the line", x.told(0, 3), 8);
    }

    /** If there is no such line. */
    private static void promise14NoSuchLine() {
        RhymeTax x = Poems.of(new int[] {2, 2, 1, 1, 0});
        for (int lines = 0; lines <= 10; lines++) {
            int count = lines;
            Check.noIndex("line " + lines + " of so many", x, () -> x.tries(count, 0, 0));
            if (lines < 10) {
                Poems.line(x, 0, 1, 0, 0);
                Check.same("the last line", x.tries(lines, 0, 0), 2 * (lines + 1));
            }
        }
        for (int line : new int[] {-1, MIN, MAX}) {
            Check.noIndex("line " + line, x, () -> x.tries(line, 0, 0));
        }
    }

    /** .. place .. : of a word in it, so that none can be tried behind all. */
    private static void promise14NoSuchPlace() {
        RhymeTax x = Poems.of(new int[] {2, 2, 1, 1, 0});
        x.line(0, 6, 0);
        for (int words = 0; words <= 8; words++) {
            int count = words;
            Check.noIndex("place " + words + " of so many", x, () -> x.tries(0, count, 0));
            if (words < 8) {
                x.write(0, words, 0);
                Check.same("the last place", x.tries(0, words, 0), x.count(6));
            }
        }
        for (int place : new int[] {-1, MIN, MAX}) {
            Check.noIndex("place " + place, x, () -> x.tries(0, place, 0));
        }
    }

    /** .. or word. */
    private static void promise14NoSuchWord() {
        RhymeTax x = Poems.of(new int[] {2, 2, 1, 1, 0});
        Poems.line(x, 0, 1, 0, 0);
        for (int words = 1; words <= 30; words++) {
            int count = words;
            Check.noIndex("word " + words + " of so many", x, () -> x.tries(0, 0, count));
            if (words < 30) {
                x.word(2, 1, 1, 1, false);
                Check.same("the last word", x.tries(0, 0, words), 8);
            }
        }
        for (int word : new int[] {-1, MIN, MAX}) {
            Check.noIndex("word " + word, x, () -> x.tries(0, 0, word));
        }
    }

    /** The word that had best stand there, so that all taxes are the least: not those of its line alone. */
    private static void promise15TheTaxesAreTheLeast() {
        RhymeTax x = fourWords();
        Poems.line(x, 0, 1, 0, 0);
        Check.same("of one line", x.best(0, 0), 1);
        Poems.line(x, 0, 1, 1, 0);
        Check.same("the one that goes over sets the next line right too", x.best(0, 0), 3);
        x.word(2, 2, 4, 4, false);
        Poems.line(x, 0, 1, 1, 3);
        Check.same("the one that gives a line behind its rhyme", x.best(1, 0), 4);
        Check.same("the one that is there", x.best(2, 0), 1);
    }

    /** Of several the one with the smallest number: also if one of the others stands there. */
    private static void promise15OfSeveralTheSmallestNumber() {
        RhymeTax x = fourWords();
        Poems.line(x, 0, 1, 0, 2);
        Check.same("1, 2 and 3 are best, 2 stands there", x.best(0, 0), 1);
        x.write(0, 0, 3);
        Check.same("3 stands there", x.best(0, 0), 1);
        x.write(0, 0, 0);
        Check.same("none of them", x.best(0, 0), 1);
        x.write(0, 0, 1);
        Check.same("1 itself", x.best(0, 0), 1);
        RhymeTax y = Poems.of(new int[] {2, 2, 1, 1, 0}, new int[] {2, 2, 1, 1, 0});
        Poems.line(y, 0, 1, 0, 1);
        Check.same("of two alike the first", y.best(0, 0), 0);
    }

    private static void promise15TheOnlyWord() {
        RhymeTax x = Poems.of(new int[] {4, 5, 1, 1, 0});
        Poems.line(x, 0, 1, 0, 0);
        Check.same("there is no other one", x.best(0, 0), 0);
    }

    private static void promise15TheLastOfThirty() {
        RhymeTax x = new RhymeTax();
        for (int word = 0; word < 30; word++) {
            x.word(2, word == 29 ? 2 : 1, 1, 1, false);
        }
        Poems.line(x, 0, 1, 0, 0);
        Check.same("the last one alone is right", x.best(0, 0), 29);
        x.write(0, 0, 29);
        Check.same("it stands there", x.best(0, 0), 29);
    }

    /** (Nothing is changed). */
    private static void promise15NothingIsChanged() {
        RhymeTax x = Poems.full();
        for (int line = 0; line < 10; line++) {
            for (int place = 0; place < 8; place += 7) {
                int asked = line;
                int there = place;
                Check.unchanged("best " + line + " " + place, x, () -> x.best(asked, there));
                Check.same("the word there", x.written(line, place), (line * 8 + place) % 30);
            }
        }
    }

    /** If there is no such line. */
    private static void promise15NoSuchLine() {
        RhymeTax x = Poems.of(new int[] {2, 2, 1, 1, 0});
        for (int lines = 0; lines <= 10; lines++) {
            int count = lines;
            Check.noIndex("line " + lines + " of so many", x, () -> x.best(count, 0));
            if (lines < 10) {
                Poems.line(x, 0, 1, 0, 0);
                Check.same("the last line", x.best(lines, 0), 0);
            }
        }
        for (int line : new int[] {-1, MIN, MAX}) {
            Check.noIndex("line " + line, x, () -> x.best(line, 0));
        }
    }

    /** .. or place. */
    private static void promise15NoSuchPlace() {
        RhymeTax x = Poems.of(new int[] {2, 2, 1, 1, 0});
        x.line(0, 6, 0);
        for (int words = 0; words <= 8; words++) {
            int count = words;
            Check.noIndex("place " + words + " of so many", x, () -> x.best(0, count));
            if (words < 8) {
                x.write(0, words, 0);
                Check.same("the last place", x.best(0, words), 0);
            }
        }
        for (int place : new int[] {-1, MIN, MAX}) {
            Check.noIndex("place " + place, x, () -> x.best(0, place));
        }
    }

    /** -1 if by none they are less. */
    private static void promise16MinusOneIfByNoneTheyAreLess() {
        RhymeTax x = new RhymeTax();
        Check.same("nothing at all", x.worst(), -1);
        x.line(0, 1, 0);
        Check.same("no words", x.worst(), -1);
        x.word(2, 1, 1, 1, false);
        Check.same("none in lines", x.worst(), -1);
        x.write(0, 0, 0);
        Check.same("no other word", x.worst(), -1);
        x.word(2, 1, 2, 2, false);
        Check.same("as much by the other word", x.worst(), -1);
        x.word(2, 3, 2, 2, false);
        Check.same("less by a third one", x.worst(), 0);
        x.write(0, 0, 2);
        Check.same("more by the others", x.worst(), -1);
        Check.same("ten lines without a fault", faultless().worst(), -1);
    }

    /** Returns 10 * the line + the place of it. */
    private static void promise16TenTimesTheLineAndThePlace() {
        RhymeTax x = faultless();
        for (int line = 0; line < 10; line++) {
            for (int place = 0; place < 8; place++) {
                x.write(line, place, 1 - place % 2);
                Check.same("line " + line + " place " + place, x.worst(), 10 * line + place);
                x.write(line, place, place % 2);
            }
        }
    }

    /** The word in all lines that had best be another one, so that all taxes are the least. */
    private static void promise16TheTaxesAreTheLeast() {
        RhymeTax x = faultless();
        x.write(0, 7, 0);
        Check.same("1 too many", x.worst(), 7);
        x.write(9, 0, 1);
        Check.same("5 too many, at a greater number", x.worst(), 90);
        x.write(9, 0, 0);
        x.write(0, 0, 1);
        x.write(9, 7, 0);
        Check.same("5 too many, at the least number", x.worst(), 0);
        RhymeTax y = fourWords();
        Poems.line(y, 0, 1, 0, 0);
        Poems.line(y, 0, 1, 1, 0);
        Poems.line(y, 0, 1, 2, 0);
        Check.same("two lines are set right by the word 3 in the line 0 or 1", y.worst(), 0);
        y.write(0, 0, 1);
        Check.same("then in the line 1", y.worst(), 10);
    }

    /** Of several the least number. */
    private static void promise16OfSeveralTheLeastNumber() {
        RhymeTax x = faultless();
        x.write(9, 6, 1);
        x.write(9, 4, 1);
        Check.same("in one line", x.worst(), 94);
        x.write(3, 6, 1);
        Check.same("in several lines, though at a greater place", x.worst(), 36);
        x.write(3, 0, 1);
        Check.same("in this line too", x.worst(), 30);
        x.write(0, 6, 1);
        Check.same("in the first line", x.worst(), 6);
    }

    /** (Nothing is changed). */
    private static void promise16NothingIsChanged() {
        RhymeTax x = Poems.full();
        Check.unchanged("worst", x, () -> x.worst());
        Check.same("the same again", x.worst(), x.worst());
        for (int line = 0; line < 10; line++) {
            for (int place = 0; place < 8; place++) {
                Check.same("the word there", x.written(line, place), (line * 8 + place) % 30);
            }
        }
    }

    /** 0 if there are none. */
    private static void promise17NoughtIfThereAreNone() {
        RhymeTax x = new RhymeTax();
        Check.same("a new object", x.mean(), 0.0);
        Check.holds("not below nought", 1 / x.mean() > 0);
        x.word(1, 1, 1, 1, false);
        Check.same("words alone", x.mean(), 0.0);
    }

    /** All taxes, divided by the lines: also by those without words, and not whole. */
    private static void promise17DividedByTheLines() {
        RhymeTax x = Poems.of(new int[] {2, 1, 1, 1, 0});
        int taxes = 0;
        for (int lines = 1; lines <= 10; lines++) {
            x.line(0, 1 + lines % 6, 0);
            taxes += 1 + lines % 6;
            Check.same("by " + lines + " lines", x.mean(), (double) taxes / lines);
        }
        x.write(0, 0, 0);
        Check.same("by a word in one", x.mean(), (taxes - 2 + 2 + 6 + 10) / 10.0);
        RhymeTax y = new RhymeTax();
        y.line(0, 1, 0);
        y.line(0, 1, 0);
        y.line(0, 2, 0);
        Check.same("4 by 3", y.mean(), 4 / 3.0);
    }

    private static long mixed(long... numbers) {
        BigInteger d = BigInteger.valueOf(977);
        for (long number : numbers) {
            d = d.multiply(BigInteger.valueOf(31)).add(BigInteger.valueOf(number));
        }
        return d.longValue();
    }

    /** A number d starts with 977: a new object has but what count tells. */
    private static void promise18ANewObject() {
        Check.same("a new object", new RhymeTax().digest(), mixed(0, 0, 0, 0, 0, 0, 0));
    }

    /** For each word what about() tells, in its order. */
    private static void promise18WordsAlone() {
        RhymeTax x = Poems.of(new int[] {4, 9, 7, 0, 1}, new int[] {1, 0, 0, 8, 0});
        Check.same("two words", x.digest(),
                mixed(2, 0, 0, 0, 0, 0, 0, 4, 9, 7, 0, 1, 0, 1, 0, 0, 8, 0, 0));
    }

    /** For each line what told() tells, in its order: without words nothing behind it. */
    private static void promise18LinesAlone() {
        RhymeTax x = new RhymeTax();
        x.line(3, 6, 5);
        x.line(0, 1, 0);
        Check.same("two lines", x.digest(), mixed(0, 2, 0, 0, 0, 0, 7,
                3, 6, 5, 0, 0, 0, 0, 0, 0, 18, 0, 6,
                0, 1, 0, 0, 0, 0, 0, 0, 0, 2, 0, 1));
    }

    /** Its words, and the stress of its syllables that stay: line by line, and neither what goes over nor is lost. */
    private static void promise18InItsOrder() {
        RhymeTax x = Poems.of(new int[] {4, 14, 5, 3, 0}, new int[] {1, 1, 5, 3, 0});
        Poems.line(x, 0, 1, 2, 1, 0);
        Poems.line(x, 1, 1, 2);
        Poems.line(x, 0, 1, 2, 1);
        Poems.line(x, 1, 1, 1, 0);
        Check.same("four lines", x.digest(), mixed(2, 4, 4, 0, 8, 2, 24,
                4, 14, 5, 3, 0, 2, 1, 1, 5, 3, 0, 2,
                0, 1, 2, 2, 5, 0, 2, 3, 2, 0, 0, 8, 1, 0, 1, 0,
                1, 1, 2, 0, 0, 3, 2, 1, 1, 0, 0, 1, 1, 1,
                0, 1, 2, 1, 1, 1, 2, 0, 1, 0, 0, 7, 1, 1, 1,
                1, 1, 1, 1, 4, 0, 2, 2, 2, 0, 0, 8, 0, 0, 1));
    }

    /** Which wraps around as a 64-bit integer: checked by numbers that don't, and are cut at last. */
    private static void promise18WrapsAround() {
        RhymeTax x = Poems.full();
        for (int line = 5; line < 10; line++) {
            for (int word = 0; word < 8; word++) {
                x.strike(line);
            }
        }
        BigInteger d = BigInteger.valueOf(977);
        for (int what = 0; what <= 6; what++) {
            d = next(d, x.count(what));
        }
        // the most calls that an object is used for do not do for all of a full poem: what it was made of is known
        for (int word = 0; word < 30; word++) {
            int[] told = {1 + word % 4, word % (2 << word % 4), word % 10, word % 3, (word + 1) % 2, word < 10 ? 2 : 1};
            for (int number : told) {
                d = next(d, number);
            }
        }
        for (int line = 0; line < 10; line++) {
            for (int what = 0; what <= 11; what++) {
                d = next(d, x.told(line, what));
            }
            for (int place = 0; line < 5 && place < 8; place++) {
                d = next(d, x.written(line, place));
            }
            int stay = x.told(line, 6);
            for (int place = 0; place < stay; place++) {
                d = next(d, x.stress(line, place));
            }
        }
        Check.holds("it would be far greater", d.bitLength() > 1000);
        Check.same("it is cut", x.digest(), d.longValue());
    }

    private static BigInteger next(BigInteger d, int number) {
        return d.multiply(BigInteger.valueOf(31)).add(BigInteger.valueOf(number));
    }
}
