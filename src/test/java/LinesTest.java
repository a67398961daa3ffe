/** Promises 4 to 8: line, write, strike, written, told. */
final class LinesTest {
    private LinesTest() {
    }

    public static void main(String[] args) {
        promise04Line();
        promise04WrongLines();
        promise05Write();
        promise05WrongWrites();
        promise06Strike();
        promise07Written();
        promise08ToldOfALine();
        promise08GoesOver();
        promise08FillsCells();
        promise08Rhyme();
        promise08Tax();
        promise08WrongTold();
        Check.end();
    }

    private static void promise04Line() {
        RhymeTax x = new RhymeTax();
        for (int i = 0; i < 10; i++) {
            Check.same("line", x.line(i % 4, 1 + i % 6, i % 6), i);
        }
        long before = x.digest();
        Check.noState("11th line", () -> x.line(0, 1, 0));
        Check.noArgument("a wrong 11th line", () -> x.line(0, 0, 0));
        Check.same("lines", x.count(1), 10);
        Check.same("nothing is changed", x.digest(), before);
        Check.same("no words at first", x.told(9, 3), 0);
    }

    private static void promise04WrongLines() {
        RhymeTax x = new RhymeTax();
        int[][] wrong = {
            {-1, 1, 0}, {4, 1, 0}, {0, 0, 0}, {0, 7, 0}, {0, -1, 0}, {0, 1, -1}, {0, 1, 6},
            {Integer.MIN_VALUE, 1, 0}, {0, Integer.MAX_VALUE, 0}, {0, 1, Integer.MIN_VALUE},
        };
        for (int[] w : wrong) {
            Check.noArgument("wrong line", () -> x.line(w[0], w[1], w[2]));
        }
        Check.same("none was begun", x.count(1), 0);
        Check.same("the greatest numbers", x.line(3, 6, 5), 0);
    }

    private static void promise05Write() {
        RhymeTax x = new RhymeTax();
        x.word(1, 0, 0, 1, false);
        x.word(2, 3, 0, 1, false);
        x.line(0, 1, 0);
        for (int i = 0; i < 8; i++) {
            Check.same("behind all", x.write(0, i, i % 2), i + 1);
        }
        Check.same("syllables", x.told(0, 4), 12);
        Check.same("replaced", x.write(0, 7, 0), 8);
        Check.same("replaced at the front", x.write(0, 0, 1), 8);
        Check.same("the new word", x.written(0, 0), 1);
        Check.same("its neighbour", x.written(0, 1), 1);
        Check.same("the last word", x.written(0, 7), 0);
        Check.same("syllables then", x.told(0, 4), 12);
    }

    private static void promise05WrongWrites() {
        RhymeTax x = new RhymeTax();
        x.word(1, 0, 0, 1, false);
        x.line(0, 1, 0);
        Check.noIndex("place behind the end", () -> x.write(0, 1, 0));
        Check.noIndex("place -1", () -> x.write(0, -1, 0));
        Check.noIndex("word 1", () -> x.write(0, 0, 1));
        Check.noIndex("word -1", () -> x.write(0, 0, -1));
        Check.noIndex("line 1", () -> x.write(1, 0, 0));
        Check.noIndex("line -1", () -> x.write(-1, 0, 0));
        Check.noIndex("place MAX", () -> x.write(0, Integer.MAX_VALUE, 0));
        for (int i = 0; i < 8; i++) {
            x.write(0, i, 0);
        }
        long before = x.digest();
        Check.noState("9th word", () -> x.write(0, 8, 0));
        Check.noIndex("a 9th word that is none", () -> x.write(0, 8, 1));
        Check.noIndex("10th word", () -> x.write(0, 9, 0));
        Check.same("nothing is changed", x.digest(), before);
    }

    private static void promise06Strike() {
        RhymeTax x = new RhymeTax();
        x.word(1, 1, 0, 0, true);
        x.word(1, 1, 0, 0, true);
        x.line(0, 1, 0);
        Check.noState("no words", () -> x.strike(0));
        Check.noIndex("line 1", () -> x.strike(1));
        Check.noIndex("line -1", () -> x.strike(-1));
        x.write(0, 0, 0);
        x.write(0, 1, 1);
        Check.same("melted", x.melted(0), 1);
        Check.same("the last word", x.strike(0), 1);
        Check.same("melted no more", x.melted(0), 0);
        Check.same("words", x.told(0, 3), 1);
        Check.same("then the first one", x.strike(0), 0);
        Check.same("no syllables", x.told(0, 4), 0);
        Check.noState("no words again", () -> x.strike(0));
    }

    private static void promise07Written() {
        RhymeTax x = new RhymeTax();
        x.word(1, 0, 0, 1, false);
        x.word(1, 0, 0, 1, false);
        x.line(0, 1, 0);
        x.line(0, 1, 0);
        x.write(1, 0, 1);
        x.write(1, 1, 0);
        Check.same("first", x.written(1, 0), 1);
        Check.same("second", x.written(1, 1), 0);
        Check.noIndex("third", () -> x.written(1, 2));
        Check.noIndex("place -1", () -> x.written(1, -1));
        Check.noIndex("none in the line 0", () -> x.written(0, 0));
        Check.noIndex("line 2", () -> x.written(2, 0));
        Check.noIndex("line -1", () -> x.written(-1, 0));
        x.strike(1);
        Check.noIndex("a struck one", () -> x.written(1, 1));
    }

    private static void told(RhymeTax x, int line, int... due) {
        for (int what = 0; what < due.length; what++) {
            Check.same("told(" + line + ", " + what + ")", x.told(line, what), due[what]);
        }
    }

    private static void promise08ToldOfALine() {
        RhymeTax x = new RhymeTax();
        x.word(2, 2, 3, 0, false);
        x.word(2, 1, 3, 4, true);
        x.line(0, 3, 4);
        told(x, 0, 0, 3, 4, 0, 0, 0, 0, 0, 0, 6, 0, 3);
        x.write(0, 0, 0);
        told(x, 0, 0, 3, 4, 1, 2, 0, 2, 0, 0, 4, 0, 22);
        x.write(0, 1, 1);
        told(x, 0, 0, 3, 4, 2, 3, 0, 3, 0, 0, 3, 0, 17);
        x.write(0, 0, 1);
        told(x, 0, 0, 3, 4, 2, 4, 0, 4, 0, 4, 2, 0, 26);
    }

    private static void promise08GoesOver() {
        RhymeTax x = new RhymeTax();
        x.word(4, 10, 1, 0, false);
        x.word(1, 1, 1, 1, true);
        x.line(1, 1, 0);
        x.write(0, 0, 0);
        told(x, 0, 1, 1, 0, 1, 4, 0, 2, 2, 2, 0, 0, 8);
        x.line(2, 2, 1);
        told(x, 1, 2, 2, 1, 0, 0, 2, 2, 0, 1, 4, 0, 2);
        // an open end that went over does not melt with the next line's beginning
        x.write(1, 0, 1);
        told(x, 1, 2, 2, 1, 1, 1, 2, 3, 0, 1, 3, 0, 22);
        x.write(0, 1, 0);
        told(x, 0, 1, 1, 0, 2, 8, 0, 2, 6, 2, 0, 0, 8);
        told(x, 1, 2, 2, 1, 1, 1, 6, 6, 1, 3, 0, 0, 15);
        x.strike(0);
        x.strike(0);
        told(x, 0, 1, 1, 0, 0, 0, 0, 0, 0, 0, 2, 0, 1);
        told(x, 1, 2, 2, 1, 1, 1, 0, 1, 0, 1, 5, 0, 30);
    }

    private static void promise08FillsCells() {
        RhymeTax x = new RhymeTax();
        x.word(4, 6, 0, 1, false);
        for (int line = 0; line < 10; line++) {
            x.line(0, 1, 0);
            for (int place = 0; place < 8; place++) {
                x.write(line, place, 0);
            }
        }
        for (int line = 0; line < 10; line++) {
            // the flow repeats 0 1 1 0, of which each line takes two
            int off = line % 2 == 0 ? 0 : 2;
            told(x, line, 0, 1, 0, 8, 32, 30 * line, 2, 30 * (line + 1), off, 0, 0, 2 + 3 * off);
        }
        Check.same("lost", x.count(5), 300);
    }

    private static void promise08Rhyme() {
        RhymeTax x = new RhymeTax();
        x.word(2, 2, 5, 4, false);
        x.word(1, 1, 5, 4, false);
        x.line(0, 6, 3);
        x.line(0, 6, 2);
        x.line(0, 6, 3);
        x.line(0, 6, 3);
        x.write(0, 0, 0);
        x.write(1, 0, 1);
        x.write(3, 0, 1);
        Check.same("the nearest one of the mark has no words", x.told(3, 10), 0);
        Check.same("another mark", x.told(1, 10), 0);
        x.write(2, 0, 0);
        Check.same("the same word", x.told(2, 10), 0);
        Check.same("all alike", x.told(3, 10), 3);
        x.write(2, 0, 1);
        Check.same("all alike", x.told(2, 10), 3);
        Check.same("the same word as the nearest one", x.told(3, 10), 0);
        x.strike(3);
        Check.same("no words itself", x.told(3, 10), 0);
        Check.same("the first line has none ahead", x.told(0, 10), 0);
    }

    private static void promise08Tax() {
        RhymeTax x = new RhymeTax();
        x.word(2, 2, 5, 4, false);
        x.word(2, 2, 5, 4, false);
        x.word(2, 2, 5, 3, false);
        x.line(0, 1, 0);
        x.line(0, 1, 0);
        x.write(0, 0, 0);
        Check.same("2 for the stressed one", x.told(0, 11), 2);
        Check.same("1 for each foot", x.told(1, 11), 1);
        x.write(1, 0, 1);
        Check.same("at least 0", x.told(1, 11), 0);
        x.line(0, 3, 0);
        x.write(2, 0, 2);
        Check.same("2 and 4 * 5, less 4 * 2", x.told(2, 11), 14);
        // 2 stay, both off, one stressed; the empty line owes its feet alone
        x.word(4, 4, 1, 1, false);
        x.write(1, 0, 3);
        x.strike(2);
        Check.same("went over to the empty line", x.told(2, 6), 2);
        Check.same("of which are off", x.told(2, 8), 2);
        Check.same("the empty line lacks", x.told(2, 9), 4);
        Check.same("but owes its feet", x.told(2, 11), 3);
    }

    private static void promise08WrongTold() {
        RhymeTax x = new RhymeTax();
        Check.noIndex("line 0", () -> x.told(0, 0));
        x.line(0, 1, 0);
        Check.noIndex("what 12", () -> x.told(0, 12));
        Check.noIndex("what -1", () -> x.told(0, -1));
        Check.noIndex("what MIN", () -> x.told(0, Integer.MIN_VALUE));
        Check.noIndex("line 1", () -> x.told(1, 0));
        Check.noIndex("line -1", () -> x.told(-1, 0));
    }
}
