/** The boundary cases that the document's section "Terms" names, each sentence by a test of its own. */
final class TermsEdgesTest {
    private TermsEdgesTest() {
    }

    public static void main(String[] args) {
        atMostThirtyWordsInTheirOrder();
        oneToFourSyllablesEachStressedOrNot();
        anEndFromNoughtWhichIsOpenToNine();
        atMostTenLinesInTheirOrder();
        aRowOfAtMostEightWordsNoneAtFirst();
        feetOfEachMetreAndNumber();
        whatTheFeetAsk();
        meltingNeedsOpenEndAheadOfOpenBeginning();
        meltedIsStressedIfOneOfBothIs();
        threeCanBeOne();
        eightCanBeOne();
        nothingMeltsAroundALine();
        nothingMeltsBetweenLines();
        nothingGoesOverToTheFirstLine();
        whatWentOverStandsAheadOfTheOwn();
        whatWentOverPassesThroughEmptyLines();
        asManyAsTheFeetHaveStay();
        ofTheLastLineItIsLost();
        offAreOnlySyllablesThatStay();
        itLacksWhatTheFeetHaveMore();
        theNearestLineAheadWithTheMark();
        aRhymeNeedsWordsInBoth();
        aRhymeIsAdded();
        noRhymeWithoutTheVowel();
        noRhymeOfAWordWithItself();
        rhymesHearStressAsItWasTold();
        stressedOnesAreTaxedWhereTheyStay();
        eachPartOfTheTax();
        theTaxIsAtLeastNought();
        aLineWithoutWordsOwesItsFeet();
        aRefusedCallChangesNothing();
        theExceptionNamedFirst();
        Check.end();
    }

    /** There are at most 30, numbered from 0 in the order of their telling. */
    private static void atMostThirtyWordsInTheirOrder() {
        RhymeTax x = new RhymeTax();
        for (int i = 0; i < 30; i++) {
            Check.noArgument("a refused word takes no number", () -> x.word(1, 2, 0, 0, false));
            Check.same("a word's number", x.word(1, i % 2, i % 10, i / 3 % 10, i % 4 == 0), i);
        }
        Check.noState("the word 30", x, () -> x.word(1, 0, 0, 0, false));
        Check.same("words", x.count(0), 30);
        for (int i = 0; i < 30; i++) {
            Check.same("its stress", x.about(i, 1), i % 2);
            Check.same("its vowel", x.about(i, 2), i % 10);
            Check.same("its end", x.about(i, 3), i / 3 % 10);
            Check.same("its beginning", x.about(i, 4), i % 4 == 0 ? 1 : 0);
        }
    }

    /** Each has 1 to 4 syllables, each one stressed or not: these are just 30 words. */
    private static void oneToFourSyllablesEachStressedOrNot() {
        RhymeTax x = new RhymeTax();
        Poems.line(x, 0, 2, 0);
        for (int syllables = 1; syllables <= 4; syllables++) {
            for (int stress = 0; stress < 1 << syllables; stress++) {
                int word = x.word(syllables, stress, 0, 1, false);
                x.write(0, 0, word);
                Check.same("own syllables", x.told(0, 4), syllables);
                for (int i = 0; i < syllables; i++) {
                    Check.same("syllable " + i + " of " + syllables + " by " + stress,
                            x.stress(0, i), (stress >> i) % 2);
                }
            }
        }
        Check.same("all of them", x.count(0), 30);
    }

    /** An end, 0 (open) to 9. */
    private static void anEndFromNoughtWhichIsOpenToNine() {
        RhymeTax x = new RhymeTax();
        for (int end = 0; end <= 9; end++) {
            Check.same("its number", x.word(2, 0, 0, end, false), end);
        }
        x.word(2, 0, 0, 1, true);
        Poems.line(x, 0, 6, 0, 0, 10);
        for (int end = 0; end <= 9; end++) {
            x.write(0, 0, end);
            Check.same("melted behind the end " + end, x.melted(0), end == 0 ? 1 : 0);
            Check.same("own syllables", x.told(0, 4), end == 0 ? 3 : 4);
        }
    }

    /** There are at most 10, numbered likewise; they stand one behind the other. */
    private static void atMostTenLinesInTheirOrder() {
        RhymeTax x = Poems.of(new int[] {4, 0, 0, 1, 0}, new int[] {4, 0, 0, 1, 0});
        for (int i = 0; i < 10; i++) {
            Check.noArgument("a refused line takes no number", () -> x.line(0, 7, 0));
            Check.same("a line's number", x.line(0, 1, i % 6), i);
        }
        Check.noState("the line 10", x, () -> x.line(0, 1, 0));
        x.write(0, 0, 0);
        x.write(0, 1, 0);
        x.write(0, 2, 0);
        for (int i = 0; i < 10; i++) {
            Check.same("over from the line " + i, x.told(i, 7), Math.max(0, 10 - 2 * i));
            Check.same("over to the line " + i, x.told(i, 5), i == 0 ? 0 : Math.max(0, 12 - 2 * i));
        }
    }

    /** A row of at most 8 words (none, at first). */
    private static void aRowOfAtMostEightWordsNoneAtFirst() {
        RhymeTax x = Poems.of(new int[] {1, 0, 0, 1, 0});
        x.line(3, 6, 5);
        Check.same("none at first", x.told(0, 3), 0);
        Check.same("no syllables at first", x.told(0, 4), 0);
        Check.noIndex("no word at first", x, () -> x.written(0, 0));
        for (int i = 0; i < 8; i++) {
            x.write(0, i, 0);
        }
        Check.noState("the 9th one", x, () -> x.write(0, 8, 0));
        Check.same("8 words", x.told(0, 3), 8);
    }

    /** Each has a metre, 0 to 3, 1 to 6 feet: of two syllables by the metres 0 and 1, of three by 2 and 3. */
    private static void feetOfEachMetreAndNumber() {
        int[] size = {2, 2, 3, 3};
        for (int metre = 0; metre <= 3; metre++) {
            RhymeTax x = new RhymeTax();
            for (int feet = 1; feet <= 6; feet++) {
                int line = x.line(metre, feet, feet - 1);
                Check.same("lacks by metre " + metre + " and feet " + feet, x.told(line, 9), size[metre] * feet);
            }
            RhymeTax y = Poems.of(new int[] {4, 0, 0, 1, 0});
            Poems.line(y, metre, 6, 0, Poems.times(8, 0));
            Check.same("stay at most by metre " + metre, y.told(0, 6), 6 * size[metre]);
        }
    }

    /** By 0 a syllable without stress, then one with it; by 1 .. by 2 .. by 3 one with it, then two without. */
    private static void whatTheFeetAsk() {
        RhymeTax x = Poems.of(new int[] {2, 2, 0, 1, 0}, new int[] {2, 1, 0, 1, 0}, new int[] {3, 4, 0, 1, 0},
                new int[] {3, 1, 0, 1, 0}, new int[] {3, 3, 0, 1, 0}, new int[] {3, 6, 0, 1, 0});
        int[] opposite = {1, 0, 4, 5};
        for (int metre = 0; metre <= 3; metre++) {
            // six feet of these words fill the line wholly, so that nothing goes over to the next one
            Poems.line(x, metre, 6, 0, Poems.times(6, metre));
            Check.same("as the metre asks " + metre, x.told(metre, 8), 0);
            Check.same("full", x.told(metre, 9) + x.told(metre, 7), 0);
            for (int place = 0; place < 6; place++) {
                x.write(metre, place, opposite[metre]);
                Check.same("one foot more is off wholly", x.told(metre, 8), (place + 1) * (metre < 2 ? 2 : 3));
            }
        }
    }

    /** But where a word with an open end stands ahead of one with an open beginning. */
    private static void meltingNeedsOpenEndAheadOfOpenBeginning() {
        int[] closed = {2, 0, 0, 1, 0};
        int[] openEnd = {2, 0, 0, 0, 0};
        int[] openBeginning = {2, 0, 0, 1, 1};
        int[] openBoth = {2, 0, 0, 0, 1};
        RhymeTax x = Poems.of(closed, openEnd, openBeginning, openBoth);
        Poems.line(x, 0, 6, 0, 0, 0);
        int[] melts = {0, 0, 0, 0, 0, 0, 1, 1, 0, 0, 0, 0, 0, 0, 1, 1};
        for (int pair = 0; pair < 16; pair++) {
            x.write(0, 0, pair / 4);
            x.write(0, 1, pair % 4);
            Check.same("word " + pair / 4 + " ahead of " + pair % 4, x.melted(0), melts[pair]);
            Check.same("own syllables then", x.told(0, 4), 4 - melts[pair]);
        }
    }

    /** Stressed, if one of both is. */
    private static void meltedIsStressedIfOneOfBothIs() {
        // each other syllable has the contrary stress, so that a wrong one of them would be heard
        RhymeTax x = Poems.of(new int[] {2, 1, 0, 0, 0}, new int[] {2, 2, 0, 0, 0},
                new int[] {2, 2, 0, 1, 1}, new int[] {2, 1, 0, 1, 1});
        Poems.line(x, 0, 6, 0, 0, 2);
        int[][] due = {{1, 0, 1}, {1, 1, 0}, {0, 1, 1}, {0, 1, 0}};
        for (int pair = 0; pair < 4; pair++) {
            x.write(0, 0, pair / 2);
            x.write(0, 1, 2 + pair % 2);
            for (int place = 0; place < 3; place++) {
                Check.same("pair " + pair + " at " + place, x.stress(0, place), due[pair][place]);
            }
            Check.same("they are three", x.told(0, 6), 3);
        }
    }

    /** By a word of one syllable between two others also three can be one. */
    private static void threeCanBeOne() {
        RhymeTax x = Poems.of(
                new int[] {2, 1, 0, 0, 0}, new int[] {2, 2, 0, 0, 0},
                new int[] {1, 0, 0, 0, 1}, new int[] {1, 1, 0, 0, 1},
                new int[] {2, 2, 0, 1, 1}, new int[] {2, 1, 0, 1, 1});
        Poems.line(x, 0, 6, 0, 0, 2, 4);
        for (int row = 0; row < 8; row++) {
            int first = row / 4;
            int middle = row / 2 % 2;
            int last = row % 2;
            x.write(0, 0, first);
            x.write(0, 1, 2 + middle);
            x.write(0, 2, 4 + last);
            Check.same("five syllables are three", x.told(0, 4), 3);
            Check.same("ahead of the one", x.stress(0, 0), 1 - first);
            Check.same("the one of three, row " + row, x.stress(0, 1), row == 0 ? 0 : 1);
            Check.same("behind the one", x.stress(0, 2), 1 - last);
        }
        x.word(2, 1, 0, 0, true);
        x.write(0, 1, 6);
        Check.same("by a word of two syllables they stay two", x.told(0, 4), 4);
    }

    /** The same, by the most words that a row has. */
    private static void eightCanBeOne() {
        RhymeTax x = Poems.of(new int[] {1, 0, 0, 0, 1}, new int[] {1, 1, 0, 0, 1});
        Poems.line(x, 0, 1, 0, Poems.times(8, 0));
        Check.same("own", x.told(0, 4), 1);
        Check.same("melted", x.melted(0), 7);
        Check.same("stays", x.told(0, 6), 1);
        Check.same("without stress", x.stress(0, 0), 0);
        for (int place = 0; place < 8; place++) {
            x.write(0, place, 1);
            Check.same("stressed by the one at " + place, x.stress(0, 0), 1);
            Check.same("taxed once", x.told(0, 11), 2 + 3 + 5);
            x.write(0, place, 0);
        }
    }

    /** Ahead of the first word and behind the last one none stands. */
    private static void nothingMeltsAroundALine() {
        RhymeTax x = Poems.of(new int[] {3, 2, 0, 0, 1}, new int[] {1, 1, 0, 0, 1});
        Poems.line(x, 0, 6, 0, 0);
        Check.same("one word", x.melted(0), 0);
        Check.same("has its syllables", x.told(0, 4), 3);
        x.write(0, 0, 1);
        Check.same("one syllable", x.told(0, 4), 1);
        Check.same("does not melt with itself", x.melted(0), 0);
        x.write(0, 1, 1);
        Check.same("but with the same word behind it", x.melted(0), 1);
    }

    /** Own syllables are those of a line's words: what ends the line ahead melts with none of them. */
    private static void nothingMeltsBetweenLines() {
        RhymeTax x = Poems.of(new int[] {3, 2, 0, 0, 1});
        Poems.line(x, 0, 1, 0, 0);
        Poems.line(x, 0, 3, 0, 0);
        Check.same("one goes over", x.told(1, 5), 1);
        Check.same("own ones of the next line", x.told(1, 4), 3);
        Check.same("and all four stay", x.told(1, 6), 4);
        Check.same("melted", x.melted(1), 0);
    }

    /** What went over from the line ahead (nothing, in the line 0). */
    private static void nothingGoesOverToTheFirstLine() {
        RhymeTax x = Poems.of(new int[] {4, 15, 0, 1, 0});
        Poems.line(x, 0, 1, 0, Poems.times(8, 0));
        Check.same("to the only line", x.told(0, 5), 0);
        for (int line = 1; line < 10; line++) {
            Poems.line(x, 0, 1, 0, Poems.times(8, 0));
        }
        Check.same("to the first one of ten", x.told(0, 5), 0);
        Check.same("its syllables that stay", x.told(0, 6), 2);
        x.strike(0);
        Check.same("it has seven words", x.told(0, 7), 26);
    }

    /** And its own ones behind that. */
    private static void whatWentOverStandsAheadOfTheOwn() {
        RhymeTax x = Poems.of(new int[] {4, 4, 0, 1, 0}, new int[] {3, 3, 0, 1, 0});
        Poems.line(x, 0, 1, 0, 0);
        Poems.line(x, 0, 2, 0, 1);
        Poems.line(x, 0, 1, 0);
        int[] due = {1, 0, 1, 1};
        for (int place = 0; place < 4; place++) {
            Check.same("syllable " + place, x.stress(1, place), due[place]);
        }
        Check.same("the last own one goes over", x.told(2, 6), 1);
        Check.same("without stress", x.stress(2, 0), 0);
    }

    /** What is more goes over to the next line, and on to the one behind. */
    private static void whatWentOverPassesThroughEmptyLines() {
        RhymeTax x = Poems.of(new int[] {4, 1, 0, 1, 0}, new int[] {4, 9, 0, 1, 0});
        Poems.line(x, 0, 1, 0, 0, 1);
        Poems.line(x, 1, 1, 0);
        Poems.line(x, 2, 1, 0);
        Poems.line(x, 3, 1, 0);
        Poems.line(x, 3, 1, 0);
        int[][] stresses = {{1, 0}, {0, 0}, {1, 0, 0}, {1}, {}};
        for (int line = 0; line < 5; line++) {
            Check.same("stay in " + line, x.told(line, 6), stresses[line].length);
            for (int place = 0; place < stresses[line].length; place++) {
                Check.same("line " + line + " at " + place, x.stress(line, place), stresses[line][place]);
            }
        }
        Check.same("nothing goes on", x.told(4, 5), 0);
        Check.same("nothing is lost", x.count(5), 0);
    }

    /** As many as its feet have, at most, stay in it. */
    private static void asManyAsTheFeetHaveStay() {
        int[] room = {2, 2, 3, 3};
        for (int metre = 0; metre <= 3; metre++) {
            for (int feet = 1; feet <= 2; feet++) {
                RhymeTax x = Poems.of(new int[] {1, 0, 0, 1, 0});
                int all = room[metre] * feet;
                Poems.line(x, metre, feet, 0, Poems.times(all - 1, 0));
                filling(x, all - 1, 0, 1);
                x.write(0, all - 1, 0);
                filling(x, all, 0, 0);
                x.write(0, all, 0);
                filling(x, all, 1, 0);
            }
        }
        RhymeTax x = Poems.of(new int[] {1, 0, 0, 1, 0}, new int[] {4, 0, 0, 1, 0}, new int[] {2, 0, 0, 1, 0});
        Poems.line(x, 3, 6, 0, 1, 1, 1, 1, 0);
        filling(x, 17, 0, 1);
        x.write(0, 4, 2);
        filling(x, 18, 0, 0);
        x.write(0, 5, 0);
        filling(x, 18, 1, 0);
    }

    private static void filling(RhymeTax x, int stay, int over, int lacks) {
        Check.same("stay", x.told(0, 6), stay);
        Check.same("go over", x.told(0, 7), over);
        Check.same("lacks", x.told(0, 9), lacks);
    }

    /** Of the last line it is lost: until a line is begun behind it. */
    private static void ofTheLastLineItIsLost() {
        RhymeTax x = Poems.of(new int[] {4, 8, 0, 1, 0});
        Poems.line(x, 0, 1, 0, 0);
        Check.same("lost", x.count(5), 2);
        Check.same("of no tax", x.count(6), 3);
        x.line(0, 1, 1);
        Check.same("goes over to the new line", x.told(1, 5), 2);
        Check.same("and stays there", x.stress(1, 1), 1);
        Check.same("nothing is lost", x.count(5), 0);
        Check.same("still goes over", x.told(0, 7), 2);
        x.write(1, 0, 0);
        Check.same("lost behind the line 1", x.count(5), 4);
    }

    /** A line is off by how many of the syllables that stay have another stress than its feet ask at their place. */
    private static void offAreOnlySyllablesThatStay() {
        RhymeTax x = Poems.of(new int[] {4, 6, 0, 1, 0}, new int[] {1, 1, 0, 1, 0});
        Poems.line(x, 0, 1, 0, 0);
        Check.same("what is lost is not off", x.told(0, 8), 0);
        Poems.line(x, 0, 1, 0);
        Check.same("it is where it stays", x.told(1, 8), 2);
        Poems.line(x, 1, 1, 0, 1);
        Check.same("what lacks is not off", x.told(2, 8), 0);
        Check.same("but lacks", x.told(2, 9), 1);
        Poems.line(x, 0, 6, 0);
        Check.same("a line without syllables is not off", x.told(3, 8), 0);
    }

    /** It lacks as many syllables as its feet have more than stay in it. */
    private static void itLacksWhatTheFeetHaveMore() {
        RhymeTax x = Poems.of(new int[] {4, 0, 0, 1, 0}, new int[] {3, 0, 0, 1, 0}, new int[] {1, 0, 0, 1, 0});
        Poems.line(x, 2, 1, 0, 0);
        Poems.line(x, 2, 1, 0);
        Check.same("more than it has room for", x.told(0, 9), 0);
        Check.same("what went over lacks no more", x.told(1, 9), 2);
        x.write(0, 0, 1);
        Check.same("just as many", x.told(0, 9), 0);
        Check.same("nothing went over", x.told(1, 9), 3);
        x.write(0, 0, 2);
        Check.same("fewer", x.told(0, 9), 2);
        x.line(3, 6, 0);
        Check.same("all eighteen", x.told(2, 9), 18);
    }

    /** A line rhymes with the nearest line ahead of it that has the same mark. */
    private static void theNearestLineAheadWithTheMark() {
        RhymeTax x = Poems.of(new int[] {1, 1, 5, 4, 0}, new int[] {1, 0, 5, 4, 0}, new int[] {1, 0, 5, 3, 0},
                new int[] {1, 1, 5, 4, 0});
        Poems.line(x, 0, 6, 2, 0);
        Poems.line(x, 0, 6, 2, 2);
        Poems.line(x, 0, 6, 0, 1);
        Poems.line(x, 0, 6, 5, 1);
        Poems.line(x, 0, 6, 2, 3);
        int[] due = {0, 1, 0, 0, 1};
        for (int line = 0; line < 5; line++) {
            Check.same("rhyme of " + line, x.told(line, 10), due[line]);
        }
        x.write(1, 0, 1);
        Check.same("of the nearest one, not the first", x.told(4, 10), 2);
        x.write(1, 0, 0);
        Check.same("all alike", x.told(4, 10), 3);
        Check.same("the line ahead has the same word", x.told(1, 10), 0);
    }

    /** If both have words (otherwise with none). */
    private static void aRhymeNeedsWordsInBoth() {
        RhymeTax x = Poems.of(new int[] {1, 1, 5, 4, 0}, new int[] {1, 1, 5, 4, 0});
        Poems.line(x, 0, 1, 2);
        Poems.line(x, 0, 1, 2);
        Check.same("both have none", x.told(1, 10), 0);
        x.write(1, 0, 1);
        Check.same("the one ahead has none", x.told(1, 10), 0);
        Check.same("so that nothing is paid", x.told(1, 11), 2 + 3 + 5);
        x.write(0, 0, 0);
        Check.same("both have words", x.told(1, 10), 3);
        Check.same("so that 12 are paid", x.told(1, 11), 0);
        x.strike(1);
        Check.same("it has none itself", x.told(1, 10), 0);
        Poems.line(x, 0, 1, 2, 1);
        Check.same("the nearest one has none, the farther one is not asked", x.told(2, 10), 0);
    }

    /** 1 for the same vowel .. 1 for the same end .. 1 for the same stress of the last syllables; added. */
    private static void aRhymeIsAdded() {
        int[][] like = {{2, 2, 5, 3, 0}, {3, 4, 5, 3, 0}, {4, 8, 5, 4, 1}, {1, 0, 5, 3, 0}, {3, 3, 5, 9, 0}};
        int[] due = {3, 2, 2, 1};
        RhymeTax x = Poems.of(like);
        Poems.line(x, 0, 6, 5, 0);
        Poems.line(x, 0, 6, 5, 0);
        for (int word = 1; word <= 4; word++) {
            x.write(1, 0, word);
            Check.same("with the word " + word, x.told(1, 10), due[word - 1]);
        }
        RhymeTax y = new RhymeTax();
        for (int number = 0; number <= 9; number++) {
            y.word(1, 0, number, number, false);
            y.word(1, 0, number, 9 - number, false);
        }
        Poems.line(y, 0, 1, 0, 0);
        Poems.line(y, 0, 1, 0, 0);
        for (int number = 0; number <= 9; number++) {
            y.write(0, 0, 2 * number);
            y.write(1, 0, 2 * number + 1);
            Check.same("by the vowel " + number, y.told(1, 10), 2);
        }
    }

    /** It is 0 without the same vowel. */
    private static void noRhymeWithoutTheVowel() {
        RhymeTax x = Poems.of(new int[] {2, 2, 0, 3, 0}, new int[] {2, 2, 9, 3, 0}, new int[] {2, 2, 1, 3, 0});
        Poems.line(x, 0, 1, 0, 0);
        Poems.line(x, 0, 1, 0, 1);
        Check.same("end and stress alone", x.told(1, 10), 0);
        x.write(1, 0, 2);
        Check.same("end and stress by the next vowel", x.told(1, 10), 0);
        Check.same("nothing is paid", x.told(1, 11), 2);
    }

    /** Or if both last words are the same one (by number). */
    private static void noRhymeOfAWordWithItself() {
        RhymeTax x = Poems.of(new int[] {2, 2, 0, 3, 0}, new int[] {2, 2, 0, 3, 0});
        Poems.line(x, 0, 1, 0, 1, 0);
        Poems.line(x, 0, 2, 0, 0);
        Check.same("the same one", x.told(1, 10), 0);
        x.write(0, 1, 1);
        Check.same("one like it", x.told(1, 10), 3);
        x.write(1, 1, 1);
        Check.same("the last words only", x.told(1, 10), 0);
    }

    /** (As they were told): a last syllable that melted rhymes by its own stress. */
    private static void rhymesHearStressAsItWasTold() {
        RhymeTax x = Poems.of(new int[] {1, 1, 7, 0, 0}, new int[] {1, 0, 5, 2, 1}, new int[] {1, 0, 5, 2, 0},
                new int[] {1, 1, 5, 2, 0});
        Poems.line(x, 0, 1, 0, 0, 1);
        Poems.line(x, 0, 1, 0, 2);
        Check.same("melted and stressed", x.stress(0, 0), 1);
        Check.same("told without", x.told(1, 10), 3);
        x.write(1, 0, 3);
        Check.same("so that a stressed one is not like it", x.told(1, 10), 2);
        RhymeTax y = Poems.of(new int[] {4, 7, 5, 2, 0}, new int[] {4, 8, 5, 2, 0}, new int[] {1, 1, 5, 2, 0});
        Poems.line(y, 0, 1, 0, 0);
        Poems.line(y, 0, 1, 0, 2);
        Check.same("what goes over rhymes too, by its last syllable", y.told(1, 10), 2);
        y.write(0, 0, 1);
        Check.same("which is stressed now", y.told(1, 10), 3);
    }

    /** 2 for each of its syllables that stay and are stressed. */
    private static void stressedOnesAreTaxedWhereTheyStay() {
        RhymeTax x = Poems.of(new int[] {4, 10, 0, 1, 0}, new int[] {2, 2, 1, 1, 0});
        Poems.line(x, 0, 1, 0, 0);
        Check.same("one of two stays", x.told(0, 11), 2);
        Poems.line(x, 0, 2, 1, 1);
        Check.same("the other one is taxed with the own one", x.told(1, 11), 4);
        Check.same("in all", x.count(6), 6);
        x.strike(0);
        Check.same("one alone, and two lack", x.told(1, 11), 2 + 10);
    }

    /** 3 for each one by which it is off, 5 for each one that it lacks, all added, less 4 times its rhyme. */
    private static void eachPartOfTheTax() {
        RhymeTax x = Poems.of(new int[] {1, 0, 0, 1, 0}, new int[] {1, 1, 0, 2, 0}, new int[] {3, 4, 3, 3, 0},
                new int[] {3, 3, 0, 1, 0});
        Poems.line(x, 2, 1, 0, 2);
        Check.same("neither off nor lacking", x.told(0, 11), 2);
        x.write(0, 0, 0);
        Check.same("two lack", x.told(0, 11), 10);
        x.write(0, 0, 1);
        Check.same("off, and two lack", x.told(0, 11), 2 + 3 + 10);
        x.write(0, 0, 3);
        Check.same("all three off, of which two are stressed", x.told(0, 11), 4 + 9);
        Poems.line(x, 3, 6, 0, 0);
        Check.same("vowel, end and stress are alike", x.told(1, 10), 3);
        Check.same("3 and 85 less 12", x.told(1, 11), 3 + 85 - 12);
        x.write(1, 0, 1);
        Check.same("2 and 85 less 4", x.told(1, 11), 2 + 85 - 4);
    }

    /** At least 0. */
    private static void theTaxIsAtLeastNought() {
        RhymeTax x = Poems.of(new int[] {4, 10, 0, 1, 0}, new int[] {4, 10, 0, 1, 0}, new int[] {4, 10, 0, 2, 0},
                new int[] {4, 2, 0, 2, 0});
        Poems.line(x, 0, 2, 0, 0);
        Poems.line(x, 0, 2, 0, 3);
        Check.same("2 and 3, less 4, is 1", x.told(1, 11), 1);
        x.write(0, 0, 3);
        x.write(1, 0, 0);
        Check.same("4 less 4 is 0", x.told(1, 11), 0);
        x.write(1, 0, 2);
        Check.same("4 less 8 is 0", x.told(1, 11), 0);
        x.write(0, 0, 0);
        x.write(1, 0, 1);
        Check.same("4 less 12 is 0", x.told(1, 11), 0);
        Check.same("and no other line owes less by it", x.count(6), 4);
    }

    /** A line without words owes 1 for each foot instead. */
    private static void aLineWithoutWordsOwesItsFeet() {
        RhymeTax x = Poems.of(new int[] {4, 15, 0, 1, 0});
        for (int feet = 1; feet <= 6; feet++) {
            int line = x.line(feet % 4, feet, 0);
            Check.same("of " + feet + " feet", x.told(line, 11), feet);
        }
        for (int place = 0; place < 8; place++) {
            x.write(0, place, 0);
        }
        for (int line = 1; line < 6; line++) {
            Check.same("also by what went over to " + line, x.told(line, 11), line + 1);
        }
        Check.same("it went over", x.told(3, 6), 8);
        Check.same("and is off there", x.told(3, 8), 4);
        for (int place = 0; place < 8; place++) {
            x.strike(0);
        }
        Check.same("after all words were struck", x.told(0, 11), 1);
    }

    /** A method that throws an exception changes nothing. */
    private static void aRefusedCallChangesNothing() {
        RhymeTax x = Poems.full();
        Check.noArgument("word", x, () -> x.word(0, 0, 0, 0, false));
        Check.noState("word", x, () -> x.word(1, 0, 0, 0, false));
        Check.noIndex("about", x, () -> x.about(30, 0));
        Check.noArgument("line", x, () -> x.line(0, 0, 0));
        Check.noState("line", x, () -> x.line(0, 1, 0));
        Check.noIndex("write to no line", x, () -> x.write(10, 0, 0));
        Check.noIndex("write to no place", x, () -> x.write(9, 9, 0));
        Check.noIndex("write no word", x, () -> x.write(9, 7, 30));
        Check.noState("write behind all", x, () -> x.write(9, 8, 0));
        Check.noIndex("strike", x, () -> x.strike(10));
        Check.noIndex("written", x, () -> x.written(9, 8));
        Check.noIndex("told", x, () -> x.told(9, 12));
        Check.noIndex("stress", x, () -> x.stress(9, 18));
        Check.noIndex("melted", x, () -> x.melted(10));
        Check.noIndex("rhyme", x, () -> x.rhyme(9, 10));
        Check.noIndex("scans", x, () -> x.scans(10));
        Check.noIndex("count", x, () -> x.count(7));
        Check.noIndex("tries at no place", x, () -> x.tries(9, 8, 0));
        Check.noIndex("tries no word", x, () -> x.tries(9, 7, 30));
        Check.noIndex("best", x, () -> x.best(9, 8));
        for (int word = 0; word < 8; word++) {
            x.strike(5);
        }
        Check.noState("strike", x, () -> x.strike(5));
        Check.same("a line can be filled as before", x.write(5, 0, 29), 1);
    }

    /** If several exceptions apply, the one that is named first is thrown. */
    private static void theExceptionNamedFirst() {
        RhymeTax x = Poems.full();
        Check.noArgument("syllables, and there are 30", x, () -> x.word(5, 0, 0, 0, false));
        Check.noArgument("stress, and there are 30", x, () -> x.word(1, 2, 0, 0, false));
        Check.noArgument("vowel, and there are 30", x, () -> x.word(1, 0, 10, 0, false));
        Check.noArgument("end, and there are 30", x, () -> x.word(1, 0, 0, 10, false));
        Check.noArgument("metre, and there are 10", x, () -> x.line(4, 1, 0));
        Check.noArgument("feet, and there are 10", x, () -> x.line(0, 7, 0));
        Check.noArgument("mark, and there are 10", x, () -> x.line(0, 1, 6));
        Check.noIndex("no word, and there are 8", x, () -> x.write(0, 8, 30));
        Check.noIndex("word -1, and there are 8", x, () -> x.write(0, 8, -1));
        Check.noIndex("no line, and no such place", x, () -> x.write(10, 8, 0));
        RhymeTax y = new RhymeTax();
        Check.noIndex("no line, so that it has no words", y, () -> y.strike(0));
    }
}
