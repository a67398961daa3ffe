import java.util.ArrayList;
import java.util.List;

/**
 * The document's words once more, syllable by syllable and anew for each answer: slow, and by no way that the program
 * goes, so that both are seldom wrong alike.
 */
final class Model {
    final List<int[]> words = new ArrayList<>();
    final List<int[]> lines = new ArrayList<>();
    final List<List<Integer>> rows = new ArrayList<>();

    private static void index(boolean is) {
        if (!is) {
            throw new IndexOutOfBoundsException();
        }
    }

    private static void argument(boolean is) {
        if (!is) {
            throw new IllegalArgumentException();
        }
    }

    private static void state(boolean is) {
        if (!is) {
            throw new IllegalStateException();
        }
    }

    private void hasLine(int line) {
        index(0 <= line && line < lines.size());
    }

    private void hasPlace(int line, int place) {
        hasLine(line);
        index(0 <= place && place < rows.get(line).size());
    }

    private void hasWord(int word) {
        index(0 <= word && word < words.size());
    }

    int word(int syllables, int stress, int vowel, int end, boolean open) {
        argument(1 <= syllables && syllables <= 4);
        argument(0 <= stress && stress < Math.pow(2, syllables));
        argument(0 <= vowel && vowel <= 9 && 0 <= end && end <= 9);
        state(words.size() < 30);
        words.add(new int[] {syllables, stress, vowel, end, open ? 1 : 0});
        return words.size() - 1;
    }

    int about(int word, int what) {
        hasWord(word);
        index(0 <= what && what <= 5);
        if (what < 5) {
            return words.get(word)[what];
        }
        int uses = 0;
        for (List<Integer> row : rows) {
            for (int other : row) {
                uses += other == word ? 1 : 0;
            }
        }
        return uses;
    }

    int line(int metre, int feet, int mark) {
        argument(0 <= metre && metre <= 3 && 1 <= feet && feet <= 6 && 0 <= mark && mark <= 5);
        state(lines.size() < 10);
        lines.add(new int[] {metre, feet, mark});
        rows.add(new ArrayList<>());
        return lines.size() - 1;
    }

    int write(int line, int place, int word) {
        hasLine(line);
        List<Integer> row = rows.get(line);
        index(0 <= place && place <= row.size());
        hasWord(word);
        if (place < row.size()) {
            row.set(place, word);
        } else {
            state(row.size() < 8);
            row.add(word);
        }
        return row.size();
    }

    int strike(int line) {
        hasLine(line);
        List<Integer> row = rows.get(line);
        state(!row.isEmpty());
        return row.remove(row.size() - 1);
    }

    int written(int line, int place) {
        hasPlace(line, place);
        return rows.get(line).get(place);
    }

    private boolean stressed(int word, int syllable) {
        return words.get(word)[1] / (int) Math.pow(2, syllable) % 2 == 1;
    }

    private boolean melts(List<Integer> row, int place) {
        return place > 0 && words.get(row.get(place - 1))[3] == 0 && words.get(row.get(place))[4] == 1;
    }

    private List<Boolean> own(int line) {
        List<Boolean> syllables = new ArrayList<>();
        List<Integer> row = rows.get(line);
        for (int place = 0; place < row.size(); place++) {
            int word = row.get(place);
            for (int i = 0; i < words.get(word)[0]; i++) {
                boolean stress = stressed(word, i);
                if (i == 0 && melts(row, place)) {
                    stress |= syllables.remove(syllables.size() - 1);
                }
                syllables.add(stress);
            }
        }
        return syllables;
    }

    private static List<Boolean> asked(int metre, int feet) {
        boolean[][] foot = {{false, true}, {true, false}, {false, false, true}, {true, false, false}};
        List<Boolean> asked = new ArrayList<>();
        for (int i = 0; i < feet; i++) {
            for (boolean stress : foot[metre]) {
                asked.add(stress);
            }
        }
        return asked;
    }

    private List<Boolean> asked(int line) {
        return asked(lines.get(line)[0], lines.get(line)[1]);
    }

    /** All syllables of a line: what went over to it, and its own ones. */
    private List<Boolean> all(int line) {
        List<Boolean> all = new ArrayList<>();
        if (line > 0) {
            all.addAll(over(line - 1));
        }
        all.addAll(own(line));
        return all;
    }

    private List<Boolean> over(int line) {
        List<Boolean> all = all(line);
        int room = asked(line).size();
        return all.size() > room ? all.subList(room, all.size()) : new ArrayList<>();
    }

    private List<Boolean> stay(int line) {
        List<Boolean> all = all(line);
        return all.subList(0, Math.min(all.size(), asked(line).size()));
    }

    private static int off(List<Boolean> syllables, List<Boolean> asked) {
        int off = 0;
        for (int i = 0; i < Math.min(syllables.size(), asked.size()); i++) {
            off += syllables.get(i).equals(asked.get(i)) ? 0 : 1;
        }
        return off;
    }

    private static int lacks(List<Boolean> syllables, List<Boolean> asked) {
        return Math.max(0, asked.size() - syllables.size());
    }

    private int paid(int line) {
        for (int ahead = line - 1; ahead >= 0; ahead--) {
            if (lines.get(ahead)[2] == lines.get(line)[2]) {
                return rhyme(ahead, line);
            }
        }
        return 0;
    }

    private int tax(int line) {
        if (rows.get(line).isEmpty()) {
            return lines.get(line)[1];
        }
        int tax = 0;
        for (boolean stress : stay(line)) {
            tax += stress ? 2 : 0;
        }
        tax += 3 * off(all(line), asked(line)) + 5 * lacks(all(line), asked(line)) - 4 * paid(line);
        return tax < 0 ? 0 : tax;
    }

    int told(int line, int what) {
        hasLine(line);
        index(0 <= what && what <= 11);
        int[] due = {
            lines.get(line)[0], lines.get(line)[1], lines.get(line)[2], rows.get(line).size(), own(line).size(),
            line > 0 ? over(line - 1).size() : 0, stay(line).size(), over(line).size(),
            off(all(line), asked(line)), lacks(all(line), asked(line)), paid(line), tax(line),
        };
        return due[what];
    }

    int stress(int line, int place) {
        hasLine(line);
        index(0 <= place && place < stay(line).size());
        return stay(line).get(place) ? 1 : 0;
    }

    int melted(int line) {
        hasLine(line);
        int melted = 0;
        for (int place = 0; place < rows.get(line).size(); place++) {
            melted += melts(rows.get(line), place) ? 1 : 0;
        }
        return melted;
    }

    int rhyme(int a, int b) {
        hasLine(a);
        hasLine(b);
        if (rows.get(a).isEmpty() || rows.get(b).isEmpty()) {
            return 0;
        }
        int one = rows.get(a).get(rows.get(a).size() - 1);
        int other = rows.get(b).get(rows.get(b).size() - 1);
        int[] x = words.get(one);
        int[] y = words.get(other);
        if (one == other || x[2] != y[2]) {
            return 0;
        }
        return 1 + (x[3] == y[3] ? 1 : 0) + (stressed(one, x[0] - 1) == stressed(other, y[0] - 1) ? 1 : 0);
    }

    int scans(int line) {
        hasLine(line);
        int best = -1;
        int least = 1000;
        for (int metre = 0; metre < 4; metre++) {
            List<Boolean> asked = asked(metre, lines.get(line)[1]);
            int faults = off(all(line), asked) + lacks(all(line), asked);
            if (faults < least) {
                least = faults;
                best = metre;
            }
        }
        return best;
    }

    private int taxes() {
        int taxes = 0;
        for (int line = 0; line < lines.size(); line++) {
            taxes += tax(line);
        }
        return taxes;
    }

    int count(int what) {
        index(0 <= what && what <= 6);
        int[] due = {words.size(), lines.size(), 0, 0, 0, 0, taxes()};
        for (int line = 0; line < lines.size(); line++) {
            due[2] += rows.get(line).size();
            due[3] += told(line, 8) == 0 && told(line, 9) == 0 ? 1 : 0;
            due[4] += told(line, 6);
            due[5] = told(line, 7);
        }
        return due[what];
    }

    int tries(int line, int place, int word) {
        hasPlace(line, place);
        hasWord(word);
        int old = rows.get(line).set(place, word);
        int taxes = taxes();
        rows.get(line).set(place, old);
        return taxes;
    }

    int best(int line, int place) {
        hasPlace(line, place);
        int best = 0;
        int least = tries(line, place, 0);
        for (int word = 1; word < words.size(); word++) {
            int taxes = tries(line, place, word);
            if (taxes < least) {
                least = taxes;
                best = word;
            }
        }
        return best;
    }

    int worst() {
        int least = taxes();
        int found = -1;
        for (int line = 0; line < lines.size(); line++) {
            for (int place = 0; place < rows.get(line).size(); place++) {
                for (int word = 0; word < words.size(); word++) {
                    int taxes = tries(line, place, word);
                    if (taxes < least) {
                        least = taxes;
                        found = 10 * line + place;
                    }
                }
            }
        }
        return found;
    }

    double mean() {
        return lines.isEmpty() ? 0 : taxes() / (double) lines.size();
    }

    long digest() {
        long d = 977;
        for (int what = 0; what <= 6; what++) {
            d = d * 31 + count(what);
        }
        for (int word = 0; word < words.size(); word++) {
            for (int what = 0; what <= 5; what++) {
                d = d * 31 + about(word, what);
            }
        }
        for (int line = 0; line < lines.size(); line++) {
            for (int what = 0; what <= 11; what++) {
                d = d * 31 + told(line, what);
            }
            for (int word : rows.get(line)) {
                d = d * 31 + word;
            }
            for (boolean stress : stay(line)) {
                d = d * 31 + (stress ? 1 : 0);
            }
        }
        return d;
    }
}
