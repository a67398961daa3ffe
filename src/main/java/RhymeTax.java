import java.util.ArrayList;

/** A bureau that taxes rhymes by stress. */
public final class RhymeTax {
    private static final int MOST_WORDS = 30;
    private static final int MOST_SYLLABLES = 4;
    private static final int MOST_LINES = 10;
    private static final int MOST_IN_LINE = 8;
    private static final int MOST_FEET = 6;
    private static final int METRES = 4;
    private static final int MARKS = 6;
    private static final int SOUNDS = 10;

    private static final int ABOUTS = 6;
    private static final int TOLDS = 12;
    private static final int COUNTS = 7;

    private static final int CELL_BITS = 64;
    private static final int MOST_IN_FLOW = MOST_LINES * MOST_IN_LINE * MOST_SYLLABLES;

    private final ArrayList<Word> words;
    private final ArrayList<Line> lines;
    private final Flow flow;

    /** Creates a bureau without words and lines. */
    public RhymeTax() {
        words = new ArrayList<Word>();
        lines = new ArrayList<Line>();
        flow = new Flow();
    }

    // ---- words

    /** Tells a word, and returns its number. */
    public int word(int syllables, int stress, int vowel, int end, boolean open)
            throws IllegalArgumentException, IllegalStateException {
        if (syllables < 1 || syllables > MOST_SYLLABLES || stress < 0 || stress >= 1 << syllables) {
            throw new IllegalArgumentException("syllables are 1 to 4, and the stress is a set of them");
        }
        if (!isBelow(vowel, SOUNDS) || !isBelow(end, SOUNDS)) {
            throw new IllegalArgumentException("vowel and end are 0 to 9");
        }
        if (words.size() >= MOST_WORDS) {
            throw new IllegalStateException("there are 30 words");
        }
        Word added = new Word(words.size(), syllables, stress, vowel, end, open);
        words.add(added);
        return added.number;
    }

    /** Tells about a word, by what is asked. */
    public int about(int word, int what) throws IndexOutOfBoundsException {
        Word asked = neededWord(word);
        refuseOutside(what, ABOUTS);
        return aboutWord(asked, what);
    }

    // ---- lines

    /** Begins a line behind all others, and returns its number. */
    public int line(int metre, int feet, int mark) throws IllegalArgumentException, IllegalStateException {
        if (!isBelow(metre, METRES) || feet < 1 || feet > MOST_FEET || !isBelow(mark, MARKS)) {
            throw new IllegalArgumentException("a metre is 0 to 3, feet are 1 to 6, a mark is 0 to 5");
        }
        int number = lines.size();
        if (number >= MOST_LINES) {
            throw new IllegalStateException("there are 10 lines");
        }
        lines.add(new Line(metre, feet, mark, lastWithMark(mark)));
        scanFrom(number);
        return number;
    }

    /** Writes a word into a line, and returns how many words the line has then. */
    public int write(int line, int place, int word) throws IndexOutOfBoundsException, IllegalStateException {
        Line changed = neededLine(line);
        int size = changed.row.size();
        refuseOutside(place, size + 1);
        Word written = neededWord(word);
        if (place < size) {
            replaceWord(line, place, written);
            return size;
        }
        if (size >= MOST_IN_LINE) {
            throw new IllegalStateException("the line has 8 words");
        }
        changed.addWord(written);
        scanFrom(line);
        return size + 1;
    }

    /** Strikes the last word of a line, and returns it. */
    public int strike(int line) throws IndexOutOfBoundsException, IllegalStateException {
        Line changed = neededLine(line);
        Word last = changed.lastWord();
        if (last == null) {
            throw new IllegalStateException("the line has no words");
        }
        changed.dropLast();
        scanFrom(line);
        return last.number;
    }

    /** Returns the word at a place of a line. */
    public int written(int line, int place) throws IndexOutOfBoundsException {
        return neededWordOf(neededLine(line), place).number;
    }

    /** Tells about a line, by what is asked. */
    public int told(int line, int what) throws IndexOutOfBoundsException {
        Line asked = neededLine(line);
        refuseOutside(what, TOLDS);
        return asked.tells(what);
    }

    // ---- scanning

    /** Returns 1 if the syllable at a place of those that stay in a line is stressed, else 0. */
    public int stress(int line, int place) throws IndexOutOfBoundsException {
        Line asked = neededLine(line);
        refuseOutside(place, asked.stays);
        return asked.stressAt(place);
    }

    /** Returns how many melted syllables there are between the words of a line. */
    public int melted(int line) throws IndexOutOfBoundsException {
        return neededLine(line).melted;
    }

    /** Returns by how much the last words of two lines rhyme, whatever their marks are. */
    public int rhyme(int a, int b) throws IndexOutOfBoundsException {
        return rhymeBetween(neededLine(a), neededLine(b));
    }

    /** Returns the metre by which a line, with its feet, would be off and lack the least. */
    public int scans(int line) throws IndexOutOfBoundsException {
        Line asked = neededLine(line);
        int best = 0;
        int least = asked.faultsBy(best, flow);
        for (int metre = 1; metre < METRES; metre++) {
            int faults = asked.faultsBy(metre, flow);
            if (faults < least) {
                least = faults;
                best = metre;
            }
        }
        return best;
    }

    /** Counts what is asked over the whole poem. */
    public int count(int what) throws IndexOutOfBoundsException {
        refuseOutside(what, COUNTS);
        return countAll(what);
    }

    // ---- what would be

    /** Returns all taxes, added, if this word stood there. */
    public int tries(int line, int place, int word) throws IndexOutOfBoundsException {
        Word replaced = neededWordOf(neededLine(line), place);
        return taxesWith(line, place, neededWord(word), replaced);
    }

    /** Returns the word that had best stand there. */
    public int best(int line, int place) throws IndexOutOfBoundsException {
        Word replaced = neededWordOf(neededLine(line), place);
        return bestWord(line, place, replaced).number;
    }

    /** Returns 10 * line + place of the word that had best be another one, or -1. */
    public int worst() {
        int found = -1;
        int least = allTaxes();
        for (int i = 0; i < lines.size(); i++) {
            Line line = lines.get(i);
            for (int place = 0; place < line.row.size(); place++) {
                Word replaced = line.row.get(place);
                int taxes = taxesWith(i, place, bestWord(i, place, replaced), replaced);
                if (taxes < least) {
                    least = taxes;
                    found = 10 * i + place;
                }
            }
        }
        return found;
    }

    /** Returns all taxes, divided by the lines; 0 if there are none. */
    public double mean() {
        int count = lines.size();
        return count > 0 ? (double) allTaxes() / count : 0.0;
    }

    /** Returns a checksum of all that is told. */
    public long digest() {
        long sum = 977;
        for (int what = 0; what < COUNTS; what++) {
            sum = mix(sum, countAll(what));
        }
        for (int i = 0; i < words.size(); i++) {
            Word word = words.get(i);
            for (int what = 0; what < ABOUTS; what++) {
                sum = mix(sum, aboutWord(word, what));
            }
        }
        for (int i = 0; i < lines.size(); i++) {
            sum = mixLine(sum, lines.get(i));
        }
        return sum;
    }

    private static long mixLine(long before, Line line) {
        long sum = before;
        for (int what = 0; what < TOLDS; what++) {
            sum = mix(sum, line.tells(what));
        }
        for (int place = 0; place < line.row.size(); place++) {
            sum = mix(sum, line.row.get(place).number);
        }
        for (int place = 0; place < line.stays; place++) {
            sum = mix(sum, line.stressAt(place));
        }
        return sum;
    }

    private static long mix(long sum, long next) {
        return sum * 31 + next;
    }

    // ---- what the calls need

    private static boolean isBelow(int number, int bound) {
        return number >= 0 && number < bound;
    }

    private static void refuseOutside(int number, int bound) {
        if (!isBelow(number, bound)) {
            throw new IndexOutOfBoundsException("there is no such number");
        }
    }

    private Word neededWord(int number) {
        refuseOutside(number, words.size());
        return words.get(number);
    }

    private Line neededLine(int number) {
        refuseOutside(number, lines.size());
        return lines.get(number);
    }

    private static Word neededWordOf(Line line, int place) {
        refuseOutside(place, line.row.size());
        return line.row.get(place);
    }

    private Line lastWithMark(int mark) {
        for (int i = lines.size() - 1; i >= 0; i--) {
            Line line = lines.get(i);
            if (line.mark == mark) {
                return line;
            }
        }
        return null;
    }

    private int aboutWord(Word word, int what) {
        switch (what) {
            case 0: return word.syllables;
            case 1: return word.stress;
            case 2: return word.vowel;
            case 3: return word.end;
            case 4: return word.open ? 1 : 0;
            default: return usesOf(word);
        }
    }

    private int usesOf(Word word) {
        int uses = 0;
        for (int i = 0; i < lines.size(); i++) {
            uses += lines.get(i).usesOf(word);
        }
        return uses;
    }

    private int countAll(int what) {
        switch (what) {
            case 0: return words.size();
            case 1: return lines.size();
            case 5: return lost();
            case 6: return allTaxes();
            default: return countInLines(what);
        }
    }

    private int countInLines(int what) {
        int sum = 0;
        for (int i = 0; i < lines.size(); i++) {
            Line line = lines.get(i);
            switch (what) {
                case 2: sum += line.row.size(); break;
                case 3: sum += line.isFaultless() ? 1 : 0; break;
                default: sum += line.stays; break;
            }
        }
        return sum;
    }

    private int lost() {
        int count = lines.size();
        return count > 0 ? lines.get(count - 1).over : 0;
    }

    private int allTaxes() {
        int sum = 0;
        for (int i = 0; i < lines.size(); i++) {
            sum += lines.get(i).tax;
        }
        return sum;
    }

    private static int rhymeBetween(Line a, Line b) {
        if (a == null || b == null) {
            return 0;
        }
        Word one = a.lastWord();
        Word other = b.lastWord();
        return one == null || other == null ? 0 : one.rhymeWith(other);
    }

    // ---- changing and trying

    /** The row stays as long as it is, so that a loop over its places may try words in it. */
    private void replaceWord(int number, int place, Word word) {
        if (!isBelow(number, lines.size())) {
            return;
        }
        lines.get(number).replaceWord(place, word);
        scanFrom(number);
    }

    /** Tries in the row itself, so that no copy is made, and puts back the word that stood there. */
    private int taxesWith(int line, int place, Word tried, Word replaced) {
        replaceWord(line, place, tried);
        int taxes = allTaxes();
        replaceWord(line, place, replaced);
        return taxes;
    }

    private Word bestWord(int line, int place, Word replaced) {
        Word best = replaced;
        int least = 0;
        for (int i = 0; i < words.size(); i++) {
            Word tried = words.get(i);
            replaceWord(line, place, tried);
            int taxes = allTaxes();
            if (i == 0 || taxes < least) {
                least = taxes;
                best = tried;
            }
        }
        replaceWord(line, place, replaced);
        return best;
    }

    /** Scans from the line first on alone: no line ahead of it feels a change in it. */
    private void scanFrom(int first) {
        int start = 0;
        int kept = 0;
        if (first > 0 && first <= lines.size()) {
            Line ahead = lines.get(first - 1);
            start = ahead.start + ahead.stays;
            kept = start + ahead.over;
        }
        flow.cutBehind(kept);
        for (int i = Math.max(first, 0); i < lines.size(); i++) {
            Line line = lines.get(i);
            line.scanIn(flow, start);
            line.payRhyme(rhymeBetween(line, line.partner));
            start += line.stays;
        }
    }

    /** The lowest bits of a number, as many as asked. */
    private static long lowBits(int count) {
        if (count <= 0) {
            return 0;
        }
        return count >= CELL_BITS ? -1L : (1L << count) - 1;
    }

    private static int footSize(int metre) {
        return metre < 2 ? 2 : 3;
    }

    /** The stresses that six feet of a metre ask for, bit 0 for the first syllable. */
    private static long askedBy(int metre) {
        switch (metre) {
            case 0: return 0b10_10_10_10_10_10L;
            case 1: return 0b01_01_01_01_01_01L;
            case 2: return 0b100_100_100_100_100_100L;
            default: return 0b001_001_001_001_001_001L;
        }
    }

    /** A word as it was told. */
    private static final class Word {
        final int number;
        final int syllables;
        final int stress;
        final int vowel;
        final int end;
        final boolean open;

        Word(int number, int syllables, int stress, int vowel, int end, boolean open) {
            this.number = number;
            this.syllables = syllables;
            this.stress = stress;
            this.vowel = vowel;
            this.end = end;
            this.open = open;
        }

        boolean meltsInto(Word next) {
            return end == 0 && next.open;
        }

        int lastStress() {
            return stress >> (syllables - 1) & 1;
        }

        int rhymeWith(Word other) {
            if (number == other.number || vowel != other.vowel) {
                return 0;
            }
            int sameEnd = end == other.end ? 1 : 0;
            int sameStress = lastStress() == other.lastStress() ? 1 : 0;
            return 1 + sameEnd + sameStress;
        }
    }

    /** A line: its row of words, and how it was scanned last. */
    private static final class Line {
        final int metre;
        final int feet;
        final int mark;
        /** The nearest line ahead with the same mark, or null: it never changes, for lines begin behind all others. */
        final Line partner;
        final ArrayList<Word> row;

        long ownStress;
        int own;
        int melted;

        /** Where in the flow the syllables of this line begin. */
        int start;
        int carried;
        int stays;
        int over;
        long staying;
        int off;
        int lacks;
        int paid;
        int tax;

        Line(int metre, int feet, int mark, Line partner) {
            this.metre = metre;
            this.feet = feet;
            this.mark = mark;
            this.partner = partner;
            row = new ArrayList<Word>();
        }

        Word lastWord() {
            int size = row.size();
            return size > 0 ? row.get(size - 1) : null;
        }

        int usesOf(Word word) {
            int uses = 0;
            for (int i = 0; i < row.size(); i++) {
                if (row.get(i).number == word.number) {
                    uses++;
                }
            }
            return uses;
        }

        void addWord(Word word) {
            row.add(word);
            joinWords();
        }

        void replaceWord(int place, Word word) {
            if (isBelow(place, row.size())) {
                row.set(place, word);
            }
            joinWords();
        }

        void dropLast() {
            int size = row.size();
            if (size > 0) {
                row.remove(size - 1);
            }
            joinWords();
        }

        /** A melted syllable takes its bit from both words, so that either makes it stressed. */
        private void joinWords() {
            ownStress = 0;
            own = 0;
            melted = 0;
            Word ahead = null;
            for (int i = 0; i < row.size(); i++) {
                Word word = row.get(i);
                if (ahead != null && ahead.meltsInto(word)) {
                    melted++;
                    own--;
                }
                ownStress |= (long) word.stress << own;
                own += word.syllables;
                ahead = word;
            }
        }

        /** Adds the own syllables to the flow, and takes out of it, from start on, those that stay. */
        void scanIn(Flow flow, int start) {
            this.start = start;
            carried = flow.end - start;
            flow.add(ownStress, own);
            int room = footSize(metre) * feet;
            stays = Math.min(carried + own, room);
            over = carried + own - stays;
            staying = flow.read(start, stays);
            off = offBy(metre, staying, stays);
            lacks = room - stays;
        }

        void payRhyme(int rhyme) {
            paid = rhyme;
            tax = row.isEmpty() ? feet
                    : Math.max(0, 2 * Long.bitCount(staying) + 3 * off + 5 * lacks - 4 * paid);
        }

        int faultsBy(int otherMetre, Flow flow) {
            int room = footSize(otherMetre) * feet;
            int held = Math.min(carried + own, room);
            return offBy(otherMetre, flow.read(start, held), held) + room - held;
        }

        private static int offBy(int metre, long stresses, int count) {
            return Long.bitCount((stresses ^ askedBy(metre)) & lowBits(count));
        }

        boolean isFaultless() {
            return off == 0 && lacks == 0;
        }

        int stressAt(int place) {
            return (int) (staying >>> place & 1);
        }

        int tells(int what) {
            switch (what) {
                case 0: return metre;
                case 1: return feet;
                case 2: return mark;
                case 3: return row.size();
                case 4: return own;
                case 5: return carried;
                case 6: return stays;
                case 7: return over;
                case 8: return off;
                case 9: return lacks;
                case 10: return paid;
                default: return tax;
            }
        }
    }

    /** The own syllables of all lines behind one another, a bit for each: 1 where it is stressed. */
    private static final class Flow {
        private final long[] cells;
        private int end;

        Flow() {
            cells = new long[MOST_IN_FLOW / CELL_BITS];
        }

        void cutBehind(int count) {
            for (int i = 0; i < cells.length; i++) {
                cells[i] &= lowBits(count - i * CELL_BITS);
            }
            end = count;
        }

        /** Adds at most 32 syllables, the most that a line has of its own; they reach into two cells at most. */
        void add(long stresses, int count) {
            int cell = end / CELL_BITS;
            int shift = end % CELL_BITS;
            addTo(cell, stresses << shift);
            if (shift + count > CELL_BITS) {
                addTo(cell + 1, stresses >>> (CELL_BITS - shift));
            }
            end += count;
        }

        /** Reads at most 18 syllables, the most that stay in a line; they reach into two cells at most. */
        long read(int start, int count) {
            int cell = start / CELL_BITS;
            int shift = start % CELL_BITS;
            long bits = cellAt(cell) >>> shift;
            if (shift + count > CELL_BITS) {
                bits |= cellAt(cell + 1) << (CELL_BITS - shift);
            }
            return bits & lowBits(count);
        }

        private void addTo(int cell, long bits) {
            if (cell >= 0 && cell < cells.length) {
                cells[cell] |= bits;
            }
        }

        private long cellAt(int cell) {
            return cell >= 0 && cell < cells.length ? cells[cell] : 0;
        }
    }
}
