import java.util.Arrays;

/** Promises 2 to 18, in runs of 512 calls of any kind, against the model: answers, exceptions, and what is changed. */
final class RandomRunsTest {
    private static final int RUNS = 100;
    private static final int CALLS = 512;
    private static final int KINDS = 17;
    private static final int[] EDGES = {-1, Integer.MIN_VALUE, Integer.MAX_VALUE, 8, 10, 30, 32, 64};

    private long seed;

    private RandomRunsTest(long seed) {
        this.seed = seed;
    }

    public static void main(String[] args) {
        for (int run = 0; run < RUNS; run++) {
            new RandomRunsTest(run * 7919L + 1).run(run);
        }
        Check.end();
    }

    private int below(int bound) {
        seed = seed * 6364136223846793005L + 1442695040888963407L;
        return (int) ((seed >>> 33) % bound);
    }

    /** Mostly a number below the bound, at times one at it, and at times a far one. */
    private int about(int bound) {
        int luck = below(60);
        if (luck == 0) {
            return EDGES[below(EDGES.length)];
        }
        return luck == 1 || bound < 1 ? bound : below(bound);
    }

    private void run(int run) {
        RhymeTax x = new RhymeTax();
        Model model = new Model();
        for (int call = 0; call < CALLS; call++) {
            int kind = pick(call, run);
            int[] with = arguments(kind, model);
            String due = answer(() -> askModel(kind, with, model));
            String got = answer(() -> ask(kind, with, x));
            Check.holds("run " + run + " call " + call + " of kind " + kind + " with " + Arrays.toString(with)
                    + " answered " + got + ", due is " + due, got.equals(due));
            if (call % 16 == 0) {
                Check.same("run " + run + " digest behind call " + call, x.digest(), model.digest());
            }
        }
        Check.same("run " + run + " digest", x.digest(), model.digest());
    }

    /** At first mostly words and lines are made, then they are filled; worst and best are dear and come seldom. */
    private int pick(int call, int run) {
        if (call < 30 + run % 40) {
            return below(5) < 4 ? below(2) * 2 : below(KINDS);
        }
        int kind = below(3) > 0 ? 3 : below(KINDS);
        return kind > 12 && kind < 15 && below(8) > 0 ? 5 + below(8) : kind;
    }

    private interface Call {
        Object run();
    }

    private static String answer(Call call) {
        try {
            return "" + call.run();
        } catch (RuntimeException e) {
            return e.getClass().getName();
        }
    }

    private int[] arguments(int kind, Model model) {
        int line = about(model.lines.size());
        int word = about(model.words.size());
        switch (kind) {
            case 0: return wordToTell();
            case 1: return new int[] {word, about(6)};
            case 2: return new int[] {about(4), 1 + about(6), about(6)};
            case 3: return new int[] {line, somePlace(model, line, 1), word};
            case 6: return new int[] {line, about(12)};
            case 7: return new int[] {line, about(18)};
            case 9: return new int[] {line, about(model.lines.size())};
            case 11: return new int[] {about(7)};
            default: return new int[] {line, somePlace(model, line, 0), word};
        }
    }

    private int[] wordToTell() {
        int syllables = 1 + about(4);
        int stress = about(syllables >= 1 && syllables <= 4 ? 1 << syllables : 2);
        return new int[] {syllables, stress, about(below(2) == 0 ? 2 : 10), below(3) == 0 ? 0 : about(10), below(2)};
    }

    private int somePlace(Model model, int line, int more) {
        return about(0 <= line && line < model.rows.size() ? model.rows.get(line).size() + more : 1);
    }

    private static Object ask(int kind, int[] with, RhymeTax x) {
        switch (kind) {
            case 0: return x.word(with[0], with[1], with[2], with[3], with[4] == 1);
            case 1: return x.about(with[0], with[1]);
            case 2: return x.line(with[0], with[1], with[2]);
            case 3: return x.write(with[0], with[1], with[2]);
            case 4: return x.strike(with[0]);
            case 5: return x.written(with[0], with[1]);
            case 6: return x.told(with[0], with[1]);
            case 7: return x.stress(with[0], with[1]);
            case 8: return x.melted(with[0]);
            case 9: return x.rhyme(with[0], with[1]);
            case 10: return x.scans(with[0]);
            case 11: return x.count(with[0]);
            case 12: return x.tries(with[0], with[1], with[2]);
            case 13: return x.best(with[0], with[1]);
            case 14: return x.worst();
            case 15: return x.mean();
            default: return x.digest();
        }
    }

    private static Object askModel(int kind, int[] with, Model model) {
        switch (kind) {
            case 0: return model.word(with[0], with[1], with[2], with[3], with[4] == 1);
            case 1: return model.about(with[0], with[1]);
            case 2: return model.line(with[0], with[1], with[2]);
            case 3: return model.write(with[0], with[1], with[2]);
            case 4: return model.strike(with[0]);
            case 5: return model.written(with[0], with[1]);
            case 6: return model.told(with[0], with[1]);
            case 7: return model.stress(with[0], with[1]);
            case 8: return model.melted(with[0]);
            case 9: return model.rhyme(with[0], with[1]);
            case 10: return model.scans(with[0]);
            case 11: return model.count(with[0]);
            case 12: return model.tries(with[0], with[1], with[2]);
            case 13: return model.best(with[0], with[1]);
            case 14: return model.worst();
            case 15: return model.mean();
            default: return model.digest();
        }
    }
}
