/** The boundary cases that the promises 9 to 13 name, each sentence by a test of its own. */
final class ScanningEdgesTest {
    private static final int MIN = Integer.MIN_VALUE;
    private static final int MAX = Integer.MAX_VALUE;

    private ScanningEdgesTest() {
    }

    public static void main(String[] args) {
        promise09OneIfStressedElseNought();
        promise09APlaceOfThoseThatStay();
        promise09EighteenPlaces();
        promise09WhatWentOverInPlentyStaysFirst();
        promise09NoSuchLine();
        promise10BetweenItsWords();
        promise10NoneToSeven();
        promise10NoSuchLine();
        promise11WhateverTheirMarksAre();
        promise11NoughtIfOneHasNoWords();
        promise11NoughtToThree();
        promise11NoSuchLine();
        promise12EachMetre();
        promise12OfSeveralTheLeastNumber();
        promise12OffAndLackAdded();
        promise12WithTheFeetThatItHas();
        promise12WithoutTheLinesBehind();
        promise12WithoutSyllables();
        promise12NothingIsChanged();
        promise12NoSuchLine();
        promise13WhatNotNoughtToSix();
        promise13NoughtToTheMost();
        promise13WordsInLines();
        promise13NeitherOffNorLack();
        promise13SyllablesThatStay();
        promise13LostBehindTheLastLine();
        promise13AllTaxes();
        Check.end();
    }

    /** Returns 1 if this syllable is stressed, else 0. */
    private static void promise09OneIfStressedElseNought() {
        RhymeTax x = Poems.of(new int[] {4, 0, 0, 1, 0}, new int[] {4, 15, 0, 1, 0}, new int[] {4, 5, 0, 1, 0});
        Poems.line(x, 0, 6, 0, 0, 1, 2);
        int[] due = {0, 0, 0, 0, 1, 1, 1, 1, 1, 0, 1, 0};
        for (int place = 0; place < 12; place++) {
            Check.same("place " + place, x.stress(0, place), due[place]);
        }
    }

    /** A place of its syllables that stay, from 0. */
    private static void promise09APlaceOfThoseThatStay() {
        RhymeTax x = Poems.of(new int[] {1, 1, 0, 1, 0}, new int[] {4, 15, 0, 1, 0});
        Poems.line(x, 0, 2, 0);
        Poems.line(x, 0, 2, 1);
        Check.noIndex("none stay", x, () -> x.stress(0, 0));
        for (int place = 0; place < 4; place++) {
            int next = place + 1;
            x.write(0, place, 0);
            Check.same("the last one", x.stress(0, place), 1);
            Check.noIndex("one that lacks, or the first one behind", x, () -> x.stress(0, next));
        }
        x.write(0, 4, 1);
        Check.noIndex("one that goes over", x, () -> x.stress(0, 4));
        Check.same("stays in the line without words", x.stress(1, 3), 1);
        x.write(0, 5, 0);
        Check.noIndex("one that is lost", x, () -> x.stress(1, 4));
        for (int place : new int[] {-1, 32, 64, -64, MIN, MAX}) {
            Check.noIndex("place " + place, x, () -> x.stress(0, place));
        }
    }

    /** As many as six feet of three syllables have, in each line of a full poem. */
    private static void promise09EighteenPlaces() {
        for (int syllables = 3; syllables <= 4; syllables++) {
            for (int stressed = 0; stressed < syllables; stressed++) {
                RhymeTax x = Poems.of(new int[] {syllables, 1 << stressed, 0, 1, 0});
                for (int line = 0; line < 10; line++) {
                    Poems.line(x, 2 + line % 2, 6, 0, Poems.times(8, 0));
                }
                eighteenPlaces(x, syllables, stressed);
            }
        }
    }

    private static void eighteenPlaces(RhymeTax x, int syllables, int stressed) {
        for (int line = 0; line < 10; line++) {
            int asked = line;
            for (int place = 0; place < 18; place++) {
                Check.same("one of each " + syllables + " of all", x.stress(line, place),
                        (18 * line + place) % syllables == stressed ? 1 : 0);
            }
            Check.noIndex("place 18", () -> x.stress(asked, 18));
        }
    }

    /** The first ones of all stay, and none of those far behind them is heard. */
    private static void promise09WhatWentOverInPlentyStaysFirst() {
        RhymeTax x = Poems.of(new int[] {4, 0, 0, 1, 0}, new int[] {4, 15, 0, 1, 0});
        int[] metres = {3, 2, 3, 0, 3};
        int[] feet = {6, 6, 6, 5, 6};
        for (int line = 0; line < 5; line++) {
            Poems.line(x, metres[line], feet[line], 0, Poems.times(8, line == 4 ? 1 : 0));
        }
        Check.same("went over", x.told(4, 5), 4 * 32 - 3 * 18 - 10);
        for (int place = 0; place < 18; place++) {
            Check.same("of what went over, at " + place, x.stress(4, place), 0);
        }
    }

    /** If there is no such line. */
    private static void promise09NoSuchLine() {
        RhymeTax x = Poems.of(new int[] {1, 1, 0, 1, 0});
        for (int lines = 0; lines <= 10; lines++) {
            int count = lines;
            Check.noIndex("line " + lines + " of so many", x, () -> x.stress(count, 0));
            if (lines < 10) {
                Poems.line(x, 0, 1, 0, 0);
                Check.same("the last line", x.stress(lines, 0), 1);
            }
        }
        for (int line : new int[] {-1, MIN, MAX}) {
            Check.noIndex("line " + line, x, () -> x.stress(line, 0));
        }
    }

    /** How many melted syllables there are between its words. */
    private static void promise10BetweenItsWords() {
        RhymeTax x = Poems.of(new int[] {2, 0, 0, 0, 1});
        Poems.line(x, 0, 1, 0);
        Poems.line(x, 0, 1, 0, 0);
        Poems.line(x, 0, 1, 0, 0, 0);
        Poems.line(x, 0, 1, 0, 0);
        int[] due = {0, 0, 1, 0};
        for (int line = 0; line < 4; line++) {
            Check.same("line " + line, x.melted(line), due[line]);
        }
        x.strike(2);
        Check.same("one was struck", x.melted(2), 0);
    }

    /** None at first; between eight words seven. */
    private static void promise10NoneToSeven() {
        RhymeTax x = Poems.of(new int[] {4, 0, 0, 0, 1}, new int[] {4, 0, 0, 1, 0});
        x.line(0, 1, 0);
        Check.same("no words", x.melted(0), 0);
        for (int place = 0; place < 8; place++) {
            x.write(0, place, 0);
            Check.same("between " + (place + 1), x.melted(0), place);
            Check.same("own syllables", x.told(0, 4), 4 + 3 * place);
        }
        x.write(0, 7, 1);
        Check.same("the last one melts no more", x.melted(0), 6);
        x.write(0, 0, 1);
        Check.same("nor the first one", x.melted(0), 5);
        x.write(0, 3, 1);
        Check.same("nor one between two others", x.melted(0), 3);
    }

    /** If there is no such line. */
    private static void promise10NoSuchLine() {
        RhymeTax x = new RhymeTax();
        for (int lines = 0; lines <= 10; lines++) {
            int count = lines;
            Check.noIndex("line " + lines + " of so many", x, () -> x.melted(count));
            if (lines < 10) {
                x.line(0, 1, 0);
                Check.same("the last line", x.melted(lines), 0);
            }
        }
        for (int line : new int[] {-1, MIN, MAX}) {
            Check.noIndex("line " + line, x, () -> x.melted(line));
        }
    }

    /** By how much their last words rhyme, whatever their marks are. */
    private static void promise11WhateverTheirMarksAre() {
        RhymeTax x = Poems.of(new int[] {1, 1, 3, 3, 0}, new int[] {1, 1, 3, 3, 0}, new int[] {1, 0, 4, 3, 0});
        Poems.line(x, 0, 1, 0, 2, 0);
        Poems.line(x, 0, 1, 5, 0, 1);
        Poems.line(x, 0, 1, 0, 1, 2);
        Check.same("of other marks", x.rhyme(0, 1), 3);
        Check.same("the other way round", x.rhyme(1, 0), 3);
        Check.same("which is not paid", x.told(1, 10), 0);
        Check.same("of the same mark", x.rhyme(0, 2), 0);
        Poems.line(x, 0, 1, 0, 1);
        Check.same("with a farther one than the nearest", x.rhyme(3, 0), 3);
        Check.same("the nearest one is paid", x.told(3, 10), 0);
    }

    /** 0 if one has no words. */
    private static void promise11NoughtIfOneHasNoWords() {
        RhymeTax x = Poems.of(new int[] {4, 1, 3, 3, 0}, new int[] {4, 1, 3, 3, 0});
        Poems.line(x, 0, 1, 0);
        Poems.line(x, 0, 1, 0);
        Check.same("both have none", x.rhyme(0, 1), 0);
        Check.same("the same one without words", x.rhyme(0, 0), 0);
        x.write(0, 0, 0);
        Check.same("b has none, though syllables went over to it", x.rhyme(0, 1), 0);
        Check.same("a has none", x.rhyme(1, 0), 0);
        x.write(1, 0, 1);
        Check.same("both have words", x.rhyme(0, 1), 3);
        x.strike(0);
        Check.same("a has none now", x.rhyme(0, 1), 0);
    }

    /** 1 for the vowel, the end, and the stress: none of it for the same word, or without the vowel. */
    private static void promise11NoughtToThree() {
        RhymeTax x = Poems.of(new int[] {2, 2, 9, 0, 1}, new int[] {1, 1, 9, 0, 0}, new int[] {1, 0, 9, 0, 0},
                new int[] {2, 2, 9, 9, 0}, new int[] {2, 1, 9, 9, 0}, new int[] {2, 2, 0, 0, 1});
        int[] due = {0, 3, 2, 2, 1, 0};
        Poems.line(x, 0, 6, 0, 0);
        Poems.line(x, 0, 6, 1, 0);
        for (int word = 0; word <= 5; word++) {
            x.write(1, 0, word);
            Check.same("with the word " + word, x.rhyme(0, 1), due[word]);
            Check.same("and round", x.rhyme(1, 0), due[word]);
        }
        Check.same("a line with itself", x.rhyme(0, 0), 0);
    }

    /** If there is no such line. */
    private static void promise11NoSuchLine() {
        RhymeTax x = Poems.of(new int[] {1, 1, 0, 1, 0}, new int[] {1, 1, 0, 1, 0});
        Poems.line(x, 0, 1, 0, 0);
        for (int lines = 1; lines <= 10; lines++) {
            int count = lines;
            Check.noIndex("b " + lines + " of so many", x, () -> x.rhyme(0, count));
            Check.noIndex("a " + lines + " of so many", x, () -> x.rhyme(count, 0));
            Check.noIndex("both", x, () -> x.rhyme(count, count));
            if (lines < 10) {
                Poems.line(x, 0, 1, 0, 1);
                Check.same("the last line", x.rhyme(lines, 0), 3);
            }
        }
        for (int line : new int[] {-1, MIN, MAX}) {
            Check.noIndex("b " + line, x, () -> x.rhyme(9, line));
            Check.noIndex("a " + line, x, () -> x.rhyme(line, 9));
        }
    }

    /** The metre, 0 to 3. */
    private static void promise12EachMetre() {
        for (int metre = 0; metre <= 3; metre++) {
            for (int due = 0; due <= 3; due++) {
                RhymeTax x = Poems.of(new int[] {2, 2, 0, 1, 0}, new int[] {2, 1, 0, 1, 0},
                        new int[] {3, 4, 0, 1, 0}, new int[] {3, 1, 0, 1, 0});
                Poems.line(x, metre, 6, 0, Poems.times(6, due));
                Check.same("of a line of the metre " + metre, x.scans(0), due);
            }
        }
    }

    /** Of several the least number. */
    private static void promise12OfSeveralTheLeastNumber() {
        RhymeTax x = Poems.of(new int[] {3, 0, 0, 1, 0}, new int[] {3, 1, 0, 1, 0}, new int[] {2, 3, 0, 1, 0},
                new int[] {3, 4, 0, 1, 0});
        x.line(3, 1, 0);
        x.write(0, 0, 0);
        Check.same("off by one in each of all four", x.scans(0), 0);
        x.write(0, 0, 1);
        Check.same("neither by 1 nor by 3", x.scans(0), 1);
        x.write(0, 0, 2);
        Check.same("one by 0 and by 1, more by the others", x.scans(0), 0);
        x.strike(0);
        RhymeTax y = Poems.of(new int[] {3, 0, 0, 1, 0}, new int[] {3, 4, 0, 1, 0});
        Poems.line(y, 2, 3, 0, 0, 1, 0);
        Check.same("two by 0 and by 2, four by the others", y.scans(0), 0);
        y.write(0, 2, 1);
        Check.same("then one by 2", y.scans(0), 2);
    }

    /** By which it would be off and lack the least syllables, added. */
    private static void promise12OffAndLackAdded() {
        RhymeTax x = Poems.of(new int[] {3, 4, 0, 1, 0}, new int[] {1, 1, 0, 1, 0}, new int[] {2, 0, 0, 1, 0});
        // off 2 1 0 2, lacks 1 1 3 3
        Poems.line(x, 0, 2, 0, 0);
        Check.same("neither off alone nor lacks alone", x.scans(0), 1);
        // off 1 0 1 0, lacks 1 1 2 2
        Poems.line(x, 0, 1, 0, 1);
        Check.same("by 1 and by 3 it is not off, by 0 and by 1 it lacks less", x.scans(1), 1);
        // off 1 1 0 1, lacks 0 0 1 1
        Poems.line(x, 2, 1, 0, 2);
        Check.same("one off is as much as one that lacks", x.scans(2), 0);
    }

    /** With the feet that it has. */
    private static void promise12WithTheFeetThatItHas() {
        RhymeTax x = Poems.of(new int[] {3, 1, 0, 1, 0});
        int[] due = {1, 3, 3, 3, 3, 3};
        for (int feet = 1; feet <= 6; feet++) {
            RhymeTax y = Poems.of(new int[] {3, 1, 0, 1, 0});
            Poems.line(y, 0, feet, 0, Poems.times(feet, 0));
            Check.same("as many dactyls as feet, " + feet, y.scans(0), due[feet - 1]);
            Check.same("its feet", y.told(0, 1), feet);
        }
        Poems.line(x, 3, 6, 0, 0);
        // off 2 1 1 0, lacks 9 9 15 15
        Check.same("one dactyl for six feet", x.scans(0), 1);
    }

    /** The lines behind have no part in it. */
    private static void promise12WithoutTheLinesBehind() {
        RhymeTax x = Poems.of(new int[] {3, 4, 0, 1, 0}, new int[] {4, 15, 0, 1, 0});
        Poems.line(x, 1, 6, 0, Poems.times(6, 0));
        for (int line = 1; line < 10; line++) {
            Poems.line(x, 1, 6, 0, Poems.times(8, 1));
            Check.same("anapaests ahead of " + line, x.scans(0), 2);
        }
    }

    /** Without syllables it lacks all of its feet, and least of two syllables each. */
    private static void promise12WithoutSyllables() {
        RhymeTax x = Poems.of(new int[] {4, 4, 0, 1, 0});
        for (int line = 0; line < 10; line++) {
            x.line(3 - line % 4, 1 + line % 6, 0);
            Check.same("line " + line, x.scans(line), 0);
        }
        x.write(0, 0, 0);
        Check.same("by what goes over to a line without words", x.told(1, 6), 1);
        // one without stress: off 0 1 0 1
        Check.same("it scans", x.scans(1), 0);
        RhymeTax y = Poems.of(new int[] {4, 8, 0, 1, 0});
        Poems.line(y, 2, 1, 0, 0);
        y.line(2, 1, 0);
        // one with it: off 1 0 1 0
        Check.same("and otherwise by a stressed one", y.scans(1), 1);
    }

    /** (Nothing is changed). */
    private static void promise12NothingIsChanged() {
        RhymeTax x = Poems.full();
        for (int line = 0; line < 10; line++) {
            int asked = line;
            Check.unchanged("scans " + line, x, () -> x.scans(asked));
            Check.same("its metre", x.told(line, 0), line % 4);
        }
    }

    /** If there is no such line. */
    private static void promise12NoSuchLine() {
        RhymeTax x = new RhymeTax();
        for (int lines = 0; lines <= 10; lines++) {
            int count = lines;
            Check.noIndex("line " + lines + " of so many", x, () -> x.scans(count));
            if (lines < 10) {
                x.line(1, 1, 0);
                Check.same("the last line", x.scans(lines), 0);
            }
        }
        for (int line : new int[] {-1, MIN, MAX}) {
            Check.noIndex("line " + line, x, () -> x.scans(line));
        }
    }

    /** If what is not 0 to 6. */
    private static void promise13WhatNotNoughtToSix() {
        RhymeTax x = Poems.of(new int[] {3, 2, 0, 1, 0}, new int[] {3, 2, 0, 1, 0});
        Poems.line(x, 0, 1, 0, 0);
        int[] due = {2, 1, 1, 1, 2, 1, 2};
        for (int what = 0; what <= 6; what++) {
            Check.same("what " + what, x.count(what), due[what]);
        }
        for (int what : new int[] {-1, 7, MIN, MAX}) {
            Check.noIndex("what " + what, x, () -> x.count(what));
        }
    }

    /** The most that a poem has: all stay in anapaests, for what goes over are whole words. */
    private static void promise13NoughtToTheMost() {
        RhymeTax x = new RhymeTax();
        for (int what = 0; what <= 6; what++) {
            Check.same("at first " + what, x.count(what), 0);
        }
        for (int i = 0; i < 30; i++) {
            x.word(3, 4, 0, 1, false);
        }
        for (int line = 0; line < 10; line++) {
            Poems.line(x, 2, 6, 0, Poems.times(8, 29));
        }
        int[] due = {30, 10, 80, 10, 180, 10 * 24 - 180, 10 * 12};
        for (int what = 0; what <= 6; what++) {
            Check.same("full " + what, x.count(what), due[what]);
        }
    }

    /** 2 words in lines. */
    private static void promise13WordsInLines() {
        RhymeTax x = Poems.of(new int[] {1, 0, 0, 1, 0}, new int[] {1, 0, 0, 1, 0});
        Poems.line(x, 0, 1, 0);
        Check.same("none", x.count(2), 0);
        Poems.line(x, 0, 1, 0, 0, 0, 0);
        Check.same("the same one thrice", x.count(2), 3);
        x.write(1, 2, 1);
        Check.same("replaced", x.count(2), 3);
        x.strike(1);
        Check.same("struck", x.count(2), 2);
        Check.same("words told", x.count(0), 2);
    }

    /** 3 lines that are neither off nor lack any. */
    private static void promise13NeitherOffNorLack() {
        RhymeTax x = Poems.of(new int[] {2, 2, 0, 1, 0}, new int[] {2, 1, 0, 1, 0}, new int[] {1, 0, 0, 1, 0},
                new int[] {4, 10, 0, 1, 0});
        Poems.line(x, 0, 1, 0, 0);
        Check.same("one", x.count(3), 1);
        Poems.line(x, 0, 1, 0, 1);
        Check.same("and one that is off", x.count(3), 1);
        Poems.line(x, 0, 1, 0, 2);
        Check.same("and one that lacks", x.count(3), 1);
        Poems.line(x, 0, 1, 0);
        Check.same("and one without syllables", x.count(3), 1);
        Poems.line(x, 0, 1, 0, 3);
        Check.same("one that has more", x.count(3), 2);
        Poems.line(x, 0, 1, 0);
        Check.same("one without words, filled by what went over", x.count(3), 3);
    }

    /** 4 syllables that stay, added. */
    private static void promise13SyllablesThatStay() {
        RhymeTax x = Poems.of(new int[] {4, 0, 0, 1, 0});
        Poems.line(x, 0, 1, 0, 0, 0);
        Check.same("what is lost does not stay", x.count(4), 2);
        Poems.line(x, 3, 1, 0);
        Check.same("what went over does", x.count(4), 5);
        Poems.line(x, 3, 6, 0, 0);
        Check.same("and all in a line that lacks some", x.count(4), 12);
    }

    /** 5 what is lost behind the last line. */
    private static void promise13LostBehindTheLastLine() {
        RhymeTax x = Poems.of(new int[] {4, 0, 0, 1, 0});
        Check.same("no lines", x.count(5), 0);
        Poems.line(x, 0, 1, 0, 0, 0);
        Check.same("six", x.count(5), 6);
        Poems.line(x, 0, 2, 0);
        Check.same("two, not six and two", x.count(5), 2);
        Poems.line(x, 0, 1, 0);
        Check.same("just as many as have room", x.count(5), 0);
        x.write(2, 0, 0);
        Check.same("four", x.count(5), 4);
        x.strike(0);
        Check.same("none was lost of the four ahead", x.count(5), 2);
    }

    /** 6 all taxes, added. */
    private static void promise13AllTaxes() {
        RhymeTax x = Poems.full();
        int taxes = 0;
        for (int line = 0; line < 10; line++) {
            taxes += x.told(line, 11);
        }
        Check.same("of ten lines", x.count(6), taxes);
        RhymeTax y = Poems.of(new int[] {2, 2, 0, 1, 0}, new int[] {2, 2, 0, 1, 0});
        Poems.line(y, 0, 1, 0, 0);
        Poems.line(y, 0, 1, 0, 1);
        Check.same("what a rhyme is worth more than its line owes is not paid to another one", y.count(6), 2);
    }
}
