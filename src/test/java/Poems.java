import java.util.Arrays;

/** Poems for the tests to begin with. */
final class Poems {
    private Poems() {
    }

    /** Words of {syllables, stress, vowel, end, 1 if the beginning is open}. */
    static RhymeTax of(int[]... words) {
        RhymeTax x = new RhymeTax();
        for (int[] word : words) {
            x.word(word[0], word[1], word[2], word[3], word[4] == 1);
        }
        return x;
    }

    /** Begins a line, and fills it with these words. */
    static int line(RhymeTax x, int metre, int feet, int mark, int... words) {
        int line = x.line(metre, feet, mark);
        for (int place = 0; place < words.length; place++) {
            x.write(line, place, words[place]);
        }
        return line;
    }

    static int[] times(int count, int word) {
        int[] row = new int[count];
        Arrays.fill(row, word);
        return row;
    }

    /** 30 words and 10 lines of 8 words each, by 120 calls. */
    static RhymeTax full() {
        RhymeTax x = new RhymeTax();
        for (int i = 0; i < 30; i++) {
            x.word(1 + i % 4, i % (2 << i % 4), i % 10, i % 3, i % 2 == 0);
        }
        for (int line = 0; line < 10; line++) {
            x.line(line % 4, 1 + line % 6, line % 6);
            for (int place = 0; place < 8; place++) {
                x.write(line, place, (line * 8 + place) % 30);
            }
        }
        return x;
    }
}
