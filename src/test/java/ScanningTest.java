/** Promises 9 to 13: stress, melted, rhyme, scans, count. */
final class ScanningTest {
    private ScanningTest() {
    }

    public static void main(String[] args) {
        promise09Stress();
        promise09FullPoem();
        promise09WrongPlaces();
        promise10Melted();
        promise10ThreeInOne();
        promise11Rhyme();
        promise11WrongLines();
        promise12Scans();
        promise12WhatWentOver();
        promise13Count();
        promise13WrongCount();
        Check.end();
    }

    private static void stresses(RhymeTax x, int line, int... due) {
        Check.same("syllables that stay in " + line, x.told(line, 6), due.length);
        for (int place = 0; place < due.length; place++) {
            Check.same("stress(" + line + ", " + place + ")", x.stress(line, place), due[place]);
        }
        Check.noIndex("behind them", () -> x.stress(line, due.length));
    }

    private static void promise09Stress() {
        RhymeTax x = new RhymeTax();
        x.word(4, 13, 1, 1, false);
        x.word(3, 2, 1, 0, false);
        x.word(2, 1, 1, 1, true);
        x.line(0, 2, 0);
        x.line(2, 1, 0);
        x.line(0, 2, 0);
        x.write(0, 0, 0);
        x.write(0, 1, 1);
        stresses(x, 0, 1, 0, 1, 1);
        stresses(x, 1, 0, 1, 0);
        stresses(x, 2);
        // the unstressed last one of word 1 melts with the stressed first one of word 2
        x.write(0, 2, 2);
        stresses(x, 0, 1, 0, 1, 1);
        stresses(x, 1, 0, 1, 1);
        stresses(x, 2, 0);
        // what went over stands ahead of the own ones
        x.write(1, 0, 0);
        stresses(x, 1, 0, 1, 1);
        stresses(x, 2, 0, 1, 0, 1);
        Check.same("lost", x.count(5), 1);
    }

    private static void promise09FullPoem() {
        RhymeTax x = new RhymeTax();
        x.word(4, 1, 0, 1, false);
        for (int line = 0; line < 10; line++) {
            x.line(2, 6, 0);
            for (int place = 0; place < 8; place++) {
                x.write(line, place, 0);
            }
        }
        for (int line = 0; line < 10; line++) {
            Check.same("stay in " + line, x.told(line, 6), 18);
            for (int place = 0; place < 18; place++) {
                Check.same("each fourth one of all", x.stress(line, place), (18 * line + place) % 4 == 0 ? 1 : 0);
            }
        }
        Check.same("lost", x.count(5), 320 - 180);
    }

    private static void promise09WrongPlaces() {
        RhymeTax x = new RhymeTax();
        x.word(1, 1, 1, 1, true);
        x.line(0, 1, 0);
        x.write(0, 0, 0);
        Check.same("the only one", x.stress(0, 0), 1);
        Check.noIndex("a lacking one", () -> x.stress(0, 1));
        Check.noIndex("place -1", () -> x.stress(0, -1));
        Check.noIndex("place 64", () -> x.stress(0, 64));
        Check.noIndex("place MIN", () -> x.stress(0, Integer.MIN_VALUE));
        Check.noIndex("line 1", () -> x.stress(1, 0));
        Check.noIndex("line -1", () -> x.stress(-1, 0));
        x.write(0, 1, 0);
        x.write(0, 2, 0);
        Check.noIndex("one that goes over", () -> x.stress(0, 2));
    }

    private static void promise10Melted() {
        RhymeTax x = new RhymeTax();
        x.word(2, 1, 1, 0, false);
        x.word(2, 1, 1, 1, true);
        x.line(0, 4, 0);
        Check.same("no words", x.melted(0), 0);
        x.write(0, 0, 1);
        x.write(0, 1, 0);
        Check.same("closed end, closed beginning", x.melted(0), 0);
        x.write(0, 0, 0);
        Check.same("open end, closed beginning", x.melted(0), 0);
        x.write(0, 1, 1);
        Check.same("open end, open beginning", x.melted(0), 1);
        x.write(0, 2, 0);
        x.write(0, 3, 1);
        Check.same("two", x.melted(0), 2);
        Check.same("own syllables", x.told(0, 4), 6);
        x.write(0, 0, 1);
        Check.same("closed end, open beginning", x.melted(0), 1);
        Check.noIndex("line 1", () -> x.melted(1));
        Check.noIndex("line -1", () -> x.melted(-1));
    }

    private static void promise10ThreeInOne() {
        RhymeTax x = new RhymeTax();
        x.word(2, 0, 1, 0, false);
        x.word(1, 0, 1, 0, true);
        x.word(2, 1, 1, 1, true);
        x.word(1, 1, 1, 0, true);
        x.word(2, 0, 1, 1, true);
        x.line(0, 3, 0);
        x.write(0, 0, 0);
        x.write(0, 1, 1);
        x.write(0, 2, 2);
        Check.same("two places where words melt", x.melted(0), 2);
        stresses(x, 0, 0, 1, 0);
        x.write(0, 2, 4);
        stresses(x, 0, 0, 0, 0);
        x.write(0, 1, 3);
        stresses(x, 0, 0, 1, 0);
    }

    private static void promise11Rhyme() {
        RhymeTax x = new RhymeTax();
        x.word(2, 2, 5, 4, false);
        int[][] others = {{1, 1, 5, 4}, {1, 0, 5, 4}, {3, 4, 5, 3}, {4, 7, 5, 3}, {2, 2, 6, 4}, {2, 2, 5, 4}};
        int[] due = {3, 2, 2, 1, 0, 3};
        x.line(0, 6, 0);
        x.line(0, 6, 5);
        Check.same("no words", x.rhyme(0, 1), 0);
        x.write(0, 0, 0);
        Check.same("one has no words", x.rhyme(0, 1), 0);
        Check.same("one has no words", x.rhyme(1, 0), 0);
        x.write(1, 0, 0);
        Check.same("the same word", x.rhyme(0, 1), 0);
        for (int i = 0; i < others.length; i++) {
            x.word(others[i][0], others[i][1], others[i][2], others[i][3], false);
            x.write(1, x.told(1, 3), i + 1);
            Check.same("rhyme with " + (i + 1), x.rhyme(0, 1), due[i]);
            Check.same("and the other way round", x.rhyme(1, 0), due[i]);
        }
        Check.same("a line with itself", x.rhyme(0, 0), 0);
        // a syllable that melts keeps the stress that was told
        x.word(1, 1, 5, 0, true);
        x.word(1, 0, 5, 0, true);
        x.line(0, 6, 1);
        x.line(0, 6, 2);
        x.write(2, 0, 7);
        x.write(2, 1, 8);
        x.write(3, 0, 7);
        Check.same("the melted one is stressed", x.stress(2, 0), 1);
        Check.same("but is not told so", x.rhyme(2, 3), 2);
    }

    private static void promise11WrongLines() {
        RhymeTax x = new RhymeTax();
        Check.noIndex("no lines", () -> x.rhyme(0, 0));
        x.line(0, 1, 0);
        Check.noIndex("b 1", () -> x.rhyme(0, 1));
        Check.noIndex("a 1", () -> x.rhyme(1, 0));
        Check.noIndex("b -1", () -> x.rhyme(0, -1));
        Check.noIndex("a MIN", () -> x.rhyme(Integer.MIN_VALUE, 0));
    }

    private static void promise12Scans() {
        RhymeTax x = new RhymeTax();
        x.word(2, 2, 0, 1, false);
        x.word(2, 1, 0, 1, false);
        x.word(3, 4, 0, 1, false);
        x.word(3, 1, 0, 1, false);
        for (int metre = 0; metre < 4; metre++) {
            x.line(3 - metre, 2, 0);
            x.write(metre, 0, metre);
            x.write(metre, 1, metre);
        }
        // these two have room for all that they have, so that nothing goes over between them
        Check.same("two iambs", x.scans(0), 0);
        Check.same("two trochees", x.scans(1), 1);
        RhymeTax y = new RhymeTax();
        y.word(3, 4, 0, 1, false);
        y.word(3, 1, 0, 1, false);
        y.line(3, 2, 0);
        long before = y.digest();
        Check.same("without syllables the least number that lacks least", y.scans(0), 0);
        Check.same("nothing is changed", y.digest(), before);
        y.write(0, 0, 0);
        y.write(0, 1, 0);
        Check.same("two anapaests", y.scans(0), 2);
        y.write(0, 0, 1);
        y.write(0, 1, 1);
        Check.same("two dactyls", y.scans(0), 3);
        before = y.digest();
        y.scans(0);
        Check.same("nothing is changed then", y.digest(), before);
        Check.noIndex("line 1", () -> y.scans(1));
        Check.noIndex("line -1", () -> y.scans(-1));
    }

    private static void promise12WhatWentOver() {
        RhymeTax x = new RhymeTax();
        x.word(4, 5, 0, 1, false);
        x.line(1, 1, 0);
        x.line(0, 1, 0);
        x.line(0, 1, 0);
        x.write(0, 0, 0);
        x.write(2, 0, 0);
        Check.same("by what went over, a trochee", x.scans(1), 1);
        Check.same("the next line's syllables are not its own", x.told(1, 6), 2);
        Check.same("and so it lacks one by 2 and 3", x.scans(1), 1);
        x.word(4, 9, 0, 1, false);
        x.write(0, 0, 1);
        Check.same("what would go over is not off", x.scans(0), 1);
    }

    private static void promise13Count() {
        RhymeTax x = new RhymeTax();
        x.word(4, 10, 1, 1, false);
        x.word(2, 2, 1, 1, false);
        x.line(0, 1, 0);
        x.line(0, 1, 1);
        x.line(0, 2, 2);
        x.write(0, 0, 0);
        x.write(2, 0, 0);
        x.write(2, 1, 1);
        // the empty line 1 is filled by what went over
        int[] due = {2, 3, 3, 3, 8, 2, 7};
        for (int what = 0; what < 7; what++) {
            Check.same("count(" + what + ")", x.count(what), due[what]);
        }
        x.strike(2);
        Check.same("nothing is lost", x.count(5), 0);
        Check.same("words in lines", x.count(2), 2);
        x.strike(2);
        Check.same("one lacks", x.count(3), 2);
        Check.same("taxes", x.count(6), 2 + 1 + 2);
    }

    private static void promise13WrongCount() {
        RhymeTax x = new RhymeTax();
        x.word(3, 0, 1, 1, false);
        x.line(0, 1, 0);
        x.write(0, 0, 0);
        Check.same("lost behind the only line", x.count(5), 1);
        Check.noIndex("count 7", () -> x.count(7));
        Check.noIndex("count -1", () -> x.count(-1));
        Check.noIndex("count MAX", () -> x.count(Integer.MAX_VALUE));
        Check.noIndex("count MIN", () -> x.count(Integer.MIN_VALUE));
    }
}
