/** Promises 14 to 18: tries, best, worst, mean, digest. */
final class WouldBeTest {
    private WouldBeTest() {
    }

    public static void main(String[] args) {
        promise14Tries();
        promise14WrongTries();
        promise15Best();
        promise15WrongBest();
        promise16Worst();
        promise16SeveralWorst();
        promise17Mean();
        promise18Digest();
        Check.end();
    }

    /** Line 0: the word 0, one iamb; line 1: the word 1, a trochee where an iamb is asked for. */
    private static RhymeTax twoLines() {
        RhymeTax x = new RhymeTax();
        x.word(2, 2, 1, 1, false);
        x.word(2, 1, 1, 1, false);
        x.word(2, 2, 2, 2, false);
        x.line(0, 1, 0);
        x.line(0, 1, 0);
        x.write(0, 0, 0);
        x.write(1, 0, 1);
        return x;
    }

    private static void promise14Tries() {
        RhymeTax x = twoLines();
        long before = x.digest();
        // 2 stressed, and in line 1 also 6 for what is off, less 8 for vowel and end
        Check.same("as it is", x.count(6), 2 + 0);
        Check.same("the same word", x.tries(1, 0, 1), 2);
        Check.same("no rhyme, but the stress is right", x.tries(1, 0, 2), 2 + 2);
        Check.same("the word of the line ahead", x.tries(1, 0, 0), 2 + 2);
        Check.same("both off, no rhyme", x.tries(0, 0, 1), 8 + 8);
        Check.same("line 1 has no rhyme then", x.tries(0, 0, 2), 2 + 8);
        Check.same("nothing is changed", x.digest(), before);
        x.word(4, 10, 3, 3, false);
        Check.same("what goes over counts too", x.tries(0, 0, 3), 2 + 2);
        Check.same("nothing is changed then", x.told(0, 7), 0);
    }

    private static void promise14WrongTries() {
        RhymeTax x = twoLines();
        Check.noIndex("place behind all", () -> x.tries(0, 1, 0));
        Check.noIndex("place -1", () -> x.tries(0, -1, 0));
        Check.noIndex("word 3", () -> x.tries(0, 0, 3));
        Check.noIndex("word -1", () -> x.tries(0, 0, -1));
        Check.noIndex("line 2", () -> x.tries(2, 0, 0));
        Check.noIndex("line -1", () -> x.tries(-1, 0, 0));
        Check.noIndex("all MIN", () -> x.tries(Integer.MIN_VALUE, Integer.MIN_VALUE, Integer.MIN_VALUE));
    }

    private static void promise15Best() {
        RhymeTax x = twoLines();
        long before = x.digest();
        Check.same("in line 1", x.best(1, 0), 1);
        Check.same("in line 0", x.best(0, 0), 0);
        Check.same("nothing is changed", x.digest(), before);
        x.word(2, 2, 1, 1, false);
        Check.same("of several the smallest number", x.best(1, 0), 1);
        x.write(1, 0, 2);
        Check.same("the one with the best rhyme or stress", x.best(1, 0), 1);
        x.write(1, 0, 0);
        Check.same("the other one alike, for it rhymes", x.best(0, 0), 3);
        x.word(2, 2, 1, 1, false);
        Check.same("of several the smallest number here too", x.best(0, 0), 3);
        RhymeTax y = new RhymeTax();
        for (int i = 0; i < 30; i++) {
            y.word(2, i < 29 ? 3 : 2, 0, 1, false);
        }
        y.line(0, 1, 0);
        y.write(0, 0, 5);
        Check.same("the last word of all", y.best(0, 0), 29);
    }

    private static void promise15WrongBest() {
        RhymeTax x = twoLines();
        Check.noIndex("place behind all", () -> x.best(0, 1));
        Check.noIndex("place -1", () -> x.best(0, -1));
        Check.noIndex("line 2", () -> x.best(2, 0));
        Check.noIndex("line -1", () -> x.best(-1, 0));
        x.strike(0);
        Check.noIndex("no words", () -> x.best(0, 0));
    }

    private static void promise16Worst() {
        RhymeTax x = new RhymeTax();
        Check.same("nothing at all", x.worst(), -1);
        x.word(2, 2, 1, 1, false);
        x.line(0, 1, 0);
        Check.same("no words in lines", x.worst(), -1);
        x.write(0, 0, 0);
        Check.same("no other word", x.worst(), -1);
        x.word(2, 1, 2, 1, false);
        Check.same("no better word", x.worst(), -1);
        x.line(0, 2, 1);
        x.write(1, 0, 0);
        x.write(1, 1, 1);
        long before = x.digest();
        Check.same("the word in the line 1 at 1", x.worst(), 11);
        Check.same("nothing is changed", x.digest(), before);
        x.write(1, 1, 0);
        Check.same("all is well", x.worst(), -1);
        x.write(0, 0, 1);
        Check.same("the very first word", x.worst(), 0);
    }

    private static void promise16SeveralWorst() {
        RhymeTax x = new RhymeTax();
        x.word(2, 1, 1, 1, false);
        x.word(2, 2, 2, 2, false);
        for (int line = 0; line < 10; line++) {
            x.line(0, 4, line % 6);
            for (int place = 0; place < 4; place++) {
                x.write(line, place, line > 7 && place > 1 ? 0 : 1);
            }
        }
        Check.same("of several the least number", x.worst(), 82);
        x.write(8, 2, 1);
        Check.same("then the next one", x.worst(), 83);
        x.write(8, 3, 1);
        x.write(9, 2, 1);
        Check.same("the last place", x.worst(), 93);
        // a better change at a greater number goes ahead of a good one
        x.word(2, 3, 3, 3, false);
        x.write(0, 0, 2);
        Check.same("the one that makes taxes the least", x.worst(), 93);
    }

    private static void promise17Mean() {
        RhymeTax x = new RhymeTax();
        Check.same("no lines", x.mean(), 0.0);
        x.line(0, 4, 0);
        Check.same("one line", x.mean(), 4.0);
        x.line(0, 3, 0);
        Check.same("two lines", x.mean(), 3.5);
        x.line(0, 1, 0);
        Check.same("three lines", x.mean(), 8.0 / 3);
    }

    private static void promise18Digest() {
        RhymeTax x = new RhymeTax();
        Check.same("a new object", x.digest(), 977L * 31 * 31 * 31 * 31 * 31 * 31 * 31);
        x.word(2, 2, 3, 4, true);
        x.line(1, 3, 5);
        x.write(0, 0, 0);
        long[] numbers = {
            1, 1, 1, 0, 2, 0, 28,
            2, 2, 3, 4, 1, 1,
            1, 3, 5, 1, 2, 0, 2, 0, 2, 4, 0, 28,
            0,
            0, 1,
        };
        long due = 977;
        for (long number : numbers) {
            due = due * 31 + number;
        }
        Check.same("a word in a line", x.digest(), due);
        Check.same("asked again", x.digest(), due);
    }
}
