/** Rounds: how the short ones grow. */
final class RoundsTest {
    public static void main(String[] args) {
        Check check = new Check();
        rounds(check, "", 1, 0);
        rounds(check, "nop\nli r1, 5\nb .", 1, 0);
        rounds(check, "li r1, 256", 2, 1);
        rounds(check, "b e\n.space 31\ne:", 1, 0);
        rounds(check, "b e\n.space 32\ne:", 2, 1);
        rounds(check, "s: .space 31\nb s", 1, 0);
        rounds(check, "s: .space 32\nb s", 2, 1);
        rounds(check, "bz r1, e\n.space 15\ne:", 1, 0);
        rounds(check, "bz r1, e\n.space 16\ne:", 2, 1);
        rounds(check, "s: .space 15\nbz r1, s", 1, 0);
        rounds(check, "s: .space 16\nbz r1, s", 2, 1);
        oneByOne(check);
        manyRounds(check);
        longStays(check);
        literals(check);
        check.finish();
    }

    private static void rounds(Check check, String text, int rounds, int longOnes) {
        AssembleLines x = check.assembled(text);
        check.same("rounds of " + Check.shown(text), x.count(7), rounds);
        check.same("long ones of " + Check.shown(text), x.count(9), longOnes);
    }

    /** Each one that grows pushes the target of one ahead of it away. */
    private static void oneByOne(Check check) {
        String text = "b a\n.space 30\nb c\na:\n.space 30\nb 1000\nc:";
        rounds(check, text, 4, 3);
        check.statements(text, 1, 0, 2, 1, 2, 2, 30, 0, 3, 32, 2, 1, 4, 34, 0, 0, 5, 34, 30, 0, 6, 64, 2, 1, 7, 66, 0, 0);
        // Those that do not fit in a round grow together.
        rounds(check, "b e\n.space 10\n".repeat(10) + "e:", 2, 8);
    }

    /** Each li counts the words of the next one, so that they grow from the last one on, one in a round. */
    private static void manyRounds(Check check) {
        StringBuilder text = new StringBuilder(".macro m\na&0:li r1,254+c&0-b&0\nb&0:li r1,254+d&0-c&0\n"
                + "c&0:li r1,254+a&1-d&0\nd&0:li r1,254+b&1-a&1\n.end\n");
        for (int i = 1; i < 100; i++) {
            text.append("m ").append(i).append(',').append(i + 1).append('\n');
        }
        rounds(check, text + "a100:li r1,255\nb100:", 1, 0);
        rounds(check, text + "a100:li r1,256\nb100:", 398, 397);
    }

    /** A value may fit again when others have grown: what has become long stays so. */
    private static void longStays(Check check) {
        check.statements("li r1, 257 + a - b\na: li r2, 300\nb:", 1, 0, 2, 1, 2, 2, 2, 1, 3, 4, 0, 0);
        check.statements("li r1, 256 + a - b\na: li r2, 300\nb:", 1, 0, 1, 0, 2, 1, 2, 1, 3, 3, 0, 0);
    }

    private static void literals(Check check) {
        check.statements("lw r1, =e\nb e\n.space 31\n.pool\ne:",
                1, 0, 1, 0, 2, 1, 2, 1, 3, 3, 31, 0, 4, 34, 1, 0, 5, 35, 0, 0);
        check.statements("lw r1, =e\nb e\n.space 31\ne:", 1, 0, 1, 0, 2, 1, 1, 0, 3, 2, 31, 0, 4, 33, 0, 0);
    }
}
