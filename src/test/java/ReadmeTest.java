/** The poem that README.md shows, with the answers that it tells. */
final class ReadmeTest {
    private ReadmeTest() {
    }

    public static void main(String[] args) {
        RhymeTax bureau = new RhymeTax();
        int the = bureau.word(1, 0, 9, 0, false);
        int away = bureau.word(2, 0b10, 3, 0, true);
        int today = bureau.word(2, 0b10, 3, 0, false);
        int delay = bureau.word(2, 0b10, 3, 0, false);

        int first = bureau.line(0, 2, 5);
        bureau.write(first, 0, the);
        bureau.write(first, 1, away);
        bureau.write(first, 2, today);
        int second = bureau.line(0, 1, 5);
        bureau.write(second, 0, delay);

        Check.same("melted(first)", bureau.melted(first), 1);
        Check.same("told(first, 6)", bureau.told(first, 6), 4);
        Check.same("told(first, 11)", bureau.told(first, 11), 4);
        Check.same("told(second, 10)", bureau.told(second, 10), 3);
        Check.same("told(second, 11)", bureau.told(second, 11), 0);
        Check.same("tries(first, 2, delay)", bureau.tries(first, 2, delay), 6);
        Check.same("best(first, 2)", bureau.best(first, 2), today);
        Check.same("the number of the word today", today, 2);
        Check.same("mean()", bureau.mean(), 2.0);
        Check.end();
    }
}
