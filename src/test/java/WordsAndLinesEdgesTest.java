/** The boundary cases that the promises 1 to 8 name, each sentence by a test of its own. */
final class WordsAndLinesEdgesTest {
    private static final int MIN = Integer.MIN_VALUE;
    private static final int MAX = Integer.MAX_VALUE;

    private WordsAndLinesEdgesTest() {
    }

    public static void main(String[] args) {
        promise01WithoutWordsAndLines();
        promise01EachObjectHasItsOwn();
        promise02SyllablesNotOneToFour();
        promise02StressNotASetOfThese();
        promise02VowelNotNoughtToNine();
        promise02EndNotNoughtToNine();
        promise02ThereAreThirty();
        promise03NoSuchWord();
        promise03WhatNotNoughtToFive();
        promise03OneIfTheBeginningIsOpen();
        promise03HowOftenItStands();
        promise04MetreNotNoughtToThree();
        promise04FeetNotOneToSix();
        promise04MarkNotNoughtToFive();
        promise04ThereAreTen();
        promise04BehindAllOthers();
        promise05AWordThereIsReplaced();
        promise05AsManyAsThereAreWords();
        promise05NoSuchLine();
        promise05NoSuchPlace();
        promise05NoSuchWord();
        promise05BehindAllAndThereAreEight();
        promise06TheLastWord();
        promise06NoSuchLine();
        promise06ItHasNone();
        promise07NoSuchLineOrPlace();
        promise07EachPlaceOfAFullLine();
        promise08NoSuchLine();
        promise08WhatNotNoughtToEleven();
        promise08GreatestNumbers();
        promise08WithoutSuchAOne();
        promise08GoOverOrAreLost();
        Check.end();
    }

    /** Creates a bureau without words and lines. */
    private static void promise01WithoutWordsAndLines() {
        RhymeTax x = new RhymeTax();
        for (int what = 0; what <= 6; what++) {
            Check.same("count " + what, x.count(what), 0);
        }
        Check.same("worst", x.worst(), -1);
        Check.same("mean", x.mean(), 0.0);
        Check.same("digest", x.digest(), 977L * 31 * 31 * 31 * 31 * 31 * 31 * 31);
        Check.noIndex("about", x, () -> x.about(0, 0));
        Check.noIndex("write", x, () -> x.write(0, 0, 0));
        Check.noIndex("strike", x, () -> x.strike(0));
        Check.noIndex("written", x, () -> x.written(0, 0));
        Check.noIndex("told", x, () -> x.told(0, 0));
        Check.noIndex("stress", x, () -> x.stress(0, 0));
        Check.noIndex("melted", x, () -> x.melted(0));
        Check.noIndex("rhyme", x, () -> x.rhyme(0, 0));
        Check.noIndex("scans", x, () -> x.scans(0));
        Check.noIndex("tries", x, () -> x.tries(0, 0, 0));
        Check.noIndex("best", x, () -> x.best(0, 0));
        Check.same("the first word", x.word(1, 0, 0, 0, true), 0);
        Check.same("the first line", x.line(0, 1, 0), 0);
    }

    private static void promise01EachObjectHasItsOwn() {
        RhymeTax full = Poems.full();
        RhymeTax x = new RhymeTax();
        Check.same("words", x.count(0), 0);
        Check.same("lines", x.count(1), 0);
        long before = full.digest();
        x.word(4, 15, 9, 9, true);
        Poems.line(x, 3, 6, 5, 0);
        Check.same("the other object", full.digest(), before);
        Check.same("this one", x.count(2), 1);
    }

    /** If syllables is not 1 to 4. */
    private static void promise02SyllablesNotOneToFour() {
        RhymeTax x = new RhymeTax();
        // a shift by 32 or 33 would wrap around to one by 0 or 1
        int[] wrong = {0, 5, -1, 31, 32, 33, 34, -28, -31, -32, MIN, MIN + 1, MAX};
        for (int syllables : wrong) {
            Check.noArgument("syllables " + syllables, x, () -> x.word(syllables, 0, 0, 0, false));
            Check.noArgument("syllables, stressed " + syllables, x, () -> x.word(syllables, 1, 0, 0, false));
        }
        for (int syllables = 1; syllables <= 4; syllables++) {
            Check.same("syllables " + syllables, x.word(syllables, 0, 0, 0, false), syllables - 1);
            Check.same("as told", x.about(syllables - 1, 0), syllables);
        }
    }

    /** Stress is not a set of these. */
    private static void promise02StressNotASetOfThese() {
        RhymeTax x = new RhymeTax();
        for (int syllables = 1; syllables <= 4; syllables++) {
            int all = (1 << syllables) - 1;
            int count = syllables;
            int[] wrong = {all + 1, all + 2, 2 * all + 1, -1, -2, 16, 32, MIN, MIN + 1, MAX};
            for (int stress : wrong) {
                Check.noArgument("stress " + stress + " of " + count, x, () -> x.word(count, stress, 0, 0, false));
            }
            Check.same("the empty set", x.word(syllables, 0, 0, 0, false), 2 * syllables - 2);
            Check.same("all", x.word(syllables, all, 0, 0, false), 2 * syllables - 1);
            Check.same("none as told", x.about(2 * syllables - 2, 1), 0);
            Check.same("all as told", x.about(2 * syllables - 1, 1), all);
        }
    }

    /** Or vowel .. is not 0 to 9. */
    private static void promise02VowelNotNoughtToNine() {
        RhymeTax x = new RhymeTax();
        for (int vowel : new int[] {-1, 10, MIN, MAX}) {
            Check.noArgument("vowel " + vowel, x, () -> x.word(1, 0, vowel, 0, false));
        }
        for (int vowel = 0; vowel <= 9; vowel++) {
            Check.same("vowel " + vowel, x.word(1, 0, vowel, 5, false), vowel);
            Check.same("as told", x.about(vowel, 2), vowel);
        }
    }

    /** Or .. end is not 0 to 9. */
    private static void promise02EndNotNoughtToNine() {
        RhymeTax x = new RhymeTax();
        for (int end : new int[] {-1, 10, MIN, MAX}) {
            Check.noArgument("end " + end, x, () -> x.word(1, 0, 0, end, false));
        }
        for (int end = 0; end <= 9; end++) {
            Check.same("end " + end, x.word(1, 0, 5, end, true), end);
            Check.same("as told", x.about(end, 3), end);
        }
    }

    /** If there are 30. */
    private static void promise02ThereAreThirty() {
        RhymeTax x = new RhymeTax();
        for (int i = 0; i < 30; i++) {
            Check.same("by fewer it is told", x.word(4, 15, 9, 9, true), i);
        }
        Check.noState("by 30 it is not", x, () -> x.word(4, 15, 9, 9, true));
        Check.noState("nor later", x, () -> x.word(1, 0, 0, 0, false));
    }

    /** If there is no such word. */
    private static void promise03NoSuchWord() {
        RhymeTax x = new RhymeTax();
        for (int words = 0; words <= 30; words++) {
            int count = words;
            for (int what = 0; what <= 5; what += 5) {
                int asked = what;
                Check.noIndex("word " + count + " of so many", () -> x.about(count, asked));
                Check.noIndex("word -1", () -> x.about(-1, asked));
            }
            if (words < 30) {
                x.word(1, 1, 2, 3, false);
                Check.same("the last word's vowel", x.about(words, 2), 2);
            }
        }
        Check.noIndex("word MIN", x, () -> x.about(MIN, 0));
        Check.noIndex("word MAX", x, () -> x.about(MAX, 0));
    }

    /** Or what is not 0 to 5. */
    private static void promise03WhatNotNoughtToFive() {
        RhymeTax x = Poems.of(new int[] {4, 9, 7, 8, 1});
        int[] due = {4, 9, 7, 8, 1, 0};
        for (int what = 0; what <= 5; what++) {
            Check.same("what " + what, x.about(0, what), due[what]);
        }
        for (int what : new int[] {-1, 6, MIN, MAX}) {
            Check.noIndex("what " + what, x, () -> x.about(0, what));
        }
    }

    /** 4 1 if its beginning is open, else 0. */
    private static void promise03OneIfTheBeginningIsOpen() {
        RhymeTax x = Poems.of(new int[] {1, 0, 0, 0, 1}, new int[] {1, 0, 0, 0, 0});
        Check.same("open", x.about(0, 4), 1);
        Check.same("not open, though its end is", x.about(1, 4), 0);
    }

    /** 5 how often it stands in lines. */
    private static void promise03HowOftenItStands() {
        RhymeTax x = Poems.of(new int[] {4, 0, 0, 0, 1}, new int[] {4, 0, 0, 0, 1});
        for (int line = 0; line < 10; line++) {
            Check.same("ahead of line " + line, x.about(0, 5), 8 * line);
            Poems.line(x, 0, 1, 0, Poems.times(8, 0));
        }
        Check.same("everywhere", x.about(0, 5), 80);
        Check.same("nowhere", x.about(1, 5), 0);
        x.write(9, 7, 1);
        x.write(0, 0, 1);
        Check.same("two places fewer", x.about(0, 5), 78);
        Check.same("two places", x.about(1, 5), 2);
        x.strike(9);
        Check.same("a struck one", x.about(1, 5), 1);
        x.tries(0, 1, 1);
        x.best(0, 1);
        x.worst();
        Check.same("what is tried does not count", x.about(1, 5), 1);
    }

    /** If metre is not 0 to 3. */
    private static void promise04MetreNotNoughtToThree() {
        RhymeTax x = new RhymeTax();
        for (int metre : new int[] {-1, 4, MIN, MAX}) {
            Check.noArgument("metre " + metre, x, () -> x.line(metre, 1, 0));
        }
        for (int metre = 0; metre <= 3; metre++) {
            Check.same("metre " + metre, x.line(metre, 1, 0), metre);
            Check.same("as told", x.told(metre, 0), metre);
        }
    }

    /** Feet is not 1 to 6. */
    private static void promise04FeetNotOneToSix() {
        RhymeTax x = new RhymeTax();
        for (int feet : new int[] {0, 7, -1, MIN, MAX}) {
            Check.noArgument("feet " + feet, x, () -> x.line(0, feet, 0));
        }
        for (int feet = 1; feet <= 6; feet++) {
            Check.same("feet " + feet, x.line(0, feet, 0), feet - 1);
            Check.same("as told", x.told(feet - 1, 1), feet);
        }
    }

    /** Or mark is not 0 to 5. */
    private static void promise04MarkNotNoughtToFive() {
        RhymeTax x = new RhymeTax();
        for (int mark : new int[] {-1, 6, MIN, MAX}) {
            Check.noArgument("mark " + mark, x, () -> x.line(0, 1, mark));
        }
        for (int mark = 0; mark <= 5; mark++) {
            Check.same("mark " + mark, x.line(0, 1, mark), mark);
            Check.same("as told", x.told(mark, 2), mark);
        }
    }

    /** If there are 10. */
    private static void promise04ThereAreTen() {
        RhymeTax x = new RhymeTax();
        for (int i = 0; i < 10; i++) {
            Check.same("by fewer it is begun", x.line(3, 6, 5), i);
        }
        Check.noState("by 10 it is not", x, () -> x.line(3, 6, 5));
        Check.noState("nor later", x, () -> x.line(0, 1, 0));
    }

    /** Begins a line, behind all others: also behind one by which syllables are lost. */
    private static void promise04BehindAllOthers() {
        RhymeTax x = Poems.of(new int[] {4, 4, 0, 1, 0});
        Poems.line(x, 0, 1, 0, 0);
        long before = x.count(6);
        Check.same("its number", x.line(1, 2, 0), 1);
        Check.same("the others keep their words", x.told(0, 3), 1);
        Check.same("it has none", x.told(1, 3), 0);
        Check.same("but what was lost", x.told(1, 6), 2);
        Check.same("and owes its feet", x.count(6), before + 2);
    }

    /** A word there is replaced. */
    private static void promise05AWordThereIsReplaced() {
        RhymeTax x = Poems.of(new int[] {1, 0, 0, 1, 0}, new int[] {4, 0, 0, 1, 0});
        Poems.line(x, 2, 6, 0, 0);
        Check.same("the only one", x.write(0, 0, 1), 1);
        Check.same("is another one", x.written(0, 0), 1);
        Check.same("by the same one", x.write(0, 0, 1), 1);
        for (int place = 1; place < 8; place++) {
            x.write(0, place, 0);
        }
        for (int place = 7; place > 0; place--) {
            Check.same("of 8 they stay 8", x.write(0, place, 1), 8);
            Check.same("the new one stands there", x.written(0, place), 1);
            Check.same("the one ahead stays", x.written(0, place - 1), place == 1 ? 1 : 0);
            Check.same("own syllables", x.told(0, 4), 4 + place - 1 + 4 * (8 - place));
        }
    }

    /** As many as there are words: behind all. */
    private static void promise05AsManyAsThereAreWords() {
        RhymeTax x = Poems.of(new int[] {1, 0, 0, 1, 0}, new int[] {2, 0, 0, 1, 0});
        x.line(0, 1, 0);
        for (int place = 0; place < 8; place++) {
            Check.same("words then", x.write(0, place, place % 2), place + 1);
            Check.same("it stands there", x.written(0, place), place % 2);
            Check.same("words", x.told(0, 3), place + 1);
        }
        x.strike(0);
        Check.same("where one was struck", x.write(0, 7, 0), 8);
    }

    /** If there is no such line. */
    private static void promise05NoSuchLine() {
        RhymeTax x = Poems.of(new int[] {1, 0, 0, 1, 0});
        for (int lines = 0; lines <= 10; lines++) {
            int count = lines;
            Check.noIndex("line " + lines + " of so many", x, () -> x.write(count, 0, 0));
            if (lines < 10) {
                x.line(0, 1, 0);
                Check.same("the last line", x.write(lines, 0, 0), 1);
            }
        }
        for (int line : new int[] {-1, MIN, MAX}) {
            Check.noIndex("line " + line, x, () -> x.write(line, 0, 0));
        }
    }

    /** .. place .. */
    private static void promise05NoSuchPlace() {
        RhymeTax x = Poems.of(new int[] {1, 0, 0, 1, 0});
        x.line(0, 1, 0);
        for (int place = 0; place < 8; place++) {
            int next = place;
            Check.noIndex("a place further than behind all", x, () -> x.write(0, next + 1, 0));
            Check.same("behind all", x.write(0, next, 0), next + 1);
        }
        for (int place : new int[] {9, 10, -1, MIN, MAX}) {
            Check.noIndex("place " + place + " of a full line", x, () -> x.write(0, place, 0));
        }
    }

    /** .. or word. */
    private static void promise05NoSuchWord() {
        RhymeTax x = new RhymeTax();
        x.line(0, 1, 0);
        for (int words = 0; words < 30; words++) {
            int count = words;
            Check.noIndex("word " + words + " of so many", x, () -> x.write(0, 0, count));
            x.word(1, 0, 0, 1, false);
            x.write(0, 0, words);
            Check.same("the last word", x.written(0, 0), words);
        }
        for (int word : new int[] {30, -1, MIN, MAX}) {
            Check.noIndex("to replace by the word " + word, x, () -> x.write(0, 0, word));
            Check.noIndex("to add the word " + word, x, () -> x.write(0, 1, word));
        }
    }

    /** If it is written behind all, and there are 8. */
    private static void promise05BehindAllAndThereAreEight() {
        RhymeTax x = Poems.of(new int[] {1, 0, 0, 1, 0});
        Poems.line(x, 0, 1, 0, Poems.times(7, 0));
        Poems.line(x, 0, 1, 0, Poems.times(8, 0));
        Check.noState("behind 8", x, () -> x.write(1, 8, 0));
        Check.same("behind 7", x.write(0, 7, 0), 8);
        Check.noState("behind 8 here too", x, () -> x.write(0, 8, 0));
        Check.same("not behind all", x.write(0, 7, 0), 8);
        x.strike(0);
        Check.same("behind 7 again", x.write(0, 7, 0), 8);
    }

    /** Strikes the last word of a line; returns this word. */
    private static void promise06TheLastWord() {
        RhymeTax x = Poems.of(new int[] {1, 0, 0, 1, 0}, new int[] {2, 0, 0, 1, 0}, new int[] {3, 0, 0, 1, 0});
        int[] row = {2, 1, 0, 0, 1, 2, 1, 2};
        int[] own = {0, 3, 5, 6, 7, 9, 12, 14, 17};
        Poems.line(x, 0, 1, 0, row);
        Poems.line(x, 0, 6, 0, row);
        for (int words = 8; words > 0; words--) {
            Check.same("own ones by " + words, x.told(0, 4), own[words]);
            Check.same("over to the next line", x.told(1, 5), Math.max(0, own[words] - 2));
            Check.same("struck", x.strike(0), row[words - 1]);
            Check.same("words then", x.told(0, 3), words - 1);
        }
        Check.same("no syllables", x.told(0, 4), 0);
        Check.same("of the other line none is struck", x.told(1, 3), 8);
    }

    /** If there is no such line. */
    private static void promise06NoSuchLine() {
        RhymeTax x = Poems.of(new int[] {1, 0, 0, 1, 0});
        for (int lines = 0; lines <= 10; lines++) {
            int count = lines;
            Check.noIndex("line " + lines + " of so many", x, () -> x.strike(count));
            if (lines < 10) {
                Poems.line(x, 0, 1, 0, 0);
                Check.same("of the last line", x.strike(lines), 0);
            }
        }
        for (int line : new int[] {-1, MIN, MAX}) {
            Check.noIndex("line " + line, x, () -> x.strike(line));
        }
    }

    /** If it has none. */
    private static void promise06ItHasNone() {
        RhymeTax x = Poems.of(new int[] {4, 0, 0, 1, 0});
        Poems.line(x, 0, 1, 0, 0);
        Poems.line(x, 0, 1, 0);
        Check.noState("though syllables went over to it", x, () -> x.strike(1));
        x.strike(0);
        Check.noState("when the only one is struck", x, () -> x.strike(0));
        x.write(0, 0, 0);
        Check.same("when one is written again", x.strike(0), 0);
    }

    /** If there is no such line or place. */
    private static void promise07NoSuchLineOrPlace() {
        RhymeTax x = Poems.of(new int[] {4, 0, 0, 1, 0});
        Poems.line(x, 0, 1, 0);
        Check.noIndex("of no words", x, () -> x.written(0, 0));
        for (int words = 1; words <= 8; words++) {
            int count = words;
            x.write(0, words - 1, 0);
            Check.noIndex("place " + words + " of so many", x, () -> x.written(0, count));
        }
        for (int number : new int[] {-1, MIN, MAX}) {
            Check.noIndex("place " + number, x, () -> x.written(0, number));
            Check.noIndex("line " + number, x, () -> x.written(number, 0));
        }
        Check.noIndex("line 1 of one", x, () -> x.written(1, 0));
        x.strike(0);
        Check.noIndex("a struck one", x, () -> x.written(0, 7));
        Poems.line(x, 0, 1, 0);
        Check.noIndex("a line's without words", x, () -> x.written(1, 0));
    }

    /** A place of it, from 0. */
    private static void promise07EachPlaceOfAFullLine() {
        RhymeTax x = Poems.full();
        for (int line = 0; line < 10; line++) {
            for (int place = 0; place < 8; place++) {
                Check.same("line " + line + " place " + place, x.written(line, place), (line * 8 + place) % 30);
            }
        }
    }

    /** If there is no such line. */
    private static void promise08NoSuchLine() {
        RhymeTax x = new RhymeTax();
        for (int lines = 0; lines <= 10; lines++) {
            int count = lines;
            for (int what = 0; what <= 11; what++) {
                int asked = what;
                Check.noIndex("line " + lines + " of so many", () -> x.told(count, asked));
            }
            if (lines < 10) {
                x.line(0, 1, lines % 6);
                Check.same("the last line's mark", x.told(lines, 2), lines % 6);
            }
        }
        for (int line : new int[] {-1, MIN, MAX}) {
            Check.noIndex("line " + line, x, () -> x.told(line, 11));
        }
    }

    /** Or what is not 0 to 11. */
    private static void promise08WhatNotNoughtToEleven() {
        RhymeTax x = Poems.of(new int[] {3, 5, 2, 1, 0}, new int[] {4, 5, 2, 1, 0});
        Poems.line(x, 1, 1, 4, 0);
        Poems.line(x, 3, 2, 4, 1);
        // 1 went over, then 1 0 1 0 stand, where 1 0 0 1 0 0 are asked
        int[] due = {3, 2, 4, 1, 4, 1, 5, 0, 1, 1, 2, 6 + 3 + 5 - 8};
        for (int what = 0; what <= 11; what++) {
            Check.same("what " + what, x.told(1, what), due[what]);
        }
        for (int what : new int[] {-1, 12, MIN, MAX}) {
            Check.noIndex("what " + what, x, () -> x.told(1, what));
        }
    }

    private static void promise08GreatestNumbers() {
        RhymeTax x = Poems.of(new int[] {4, 15, 0, 1, 0}, new int[] {3, 3, 0, 1, 0});
        for (int line = 0; line < 9; line++) {
            Poems.line(x, 0, 1, 0, Poems.times(8, 0));
        }
        Poems.line(x, 2, 6, 5, Poems.times(8, 0));
        int[] due = {2, 6, 5, 8, 32, 9 * 30, 18, 9 * 30 + 32 - 18, 12, 0, 0, 36 + 36};
        for (int what = 0; what <= 11; what++) {
            Check.same("what " + what, x.told(9, what), due[what]);
        }
        RhymeTax y = Poems.of(new int[] {3, 3, 0, 1, 0});
        Poems.line(y, 2, 6, 0, Poems.times(6, 0));
        Check.same("off by all", y.told(0, 8), 18);
        Check.same("and 12 stressed", y.told(0, 11), 24 + 54);
        RhymeTax z = Poems.of(new int[] {1, 1, 0, 1, 0});
        Poems.line(z, 2, 6, 0, 0);
        Check.same("17 lack", z.told(0, 9), 17);
        Check.same("and one is off", z.told(0, 11), 2 + 3 + 85);
    }

    /** 10 its rhyme with the nearest line ahead that has its mark, 0 without such a one. */
    private static void promise08WithoutSuchAOne() {
        RhymeTax x = Poems.of(new int[] {2, 2, 5, 4, 0}, new int[] {2, 2, 5, 4, 0});
        for (int mark = 0; mark <= 5; mark++) {
            Poems.line(x, 0, 1, mark, mark % 2);
            Check.same("no line ahead has the mark " + mark, x.told(mark, 10), 0);
        }
        Poems.line(x, 0, 1, 0, 1);
        Check.same("the line 0 has it", x.told(6, 10), 3);
        Check.same("a line behind is none ahead", x.told(0, 10), 0);
        Poems.line(x, 0, 1, 5, 0);
        Check.same("the line 5 has it", x.told(7, 10), 3);
    }

    /** 7 syllables that go over from it (or are lost). */
    private static void promise08GoOverOrAreLost() {
        RhymeTax x = Poems.of(new int[] {4, 0, 0, 1, 0});
        Poems.line(x, 3, 1, 0, 0);
        Check.same("one is lost", x.told(0, 7), 1);
        Poems.line(x, 3, 1, 0);
        Check.same("it goes over", x.told(0, 7), 1);
        Check.same("as many as come", x.told(1, 5), 1);
        Check.same("none goes on", x.told(1, 7), 0);
    }
}
