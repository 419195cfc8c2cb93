/** Promise 7: statement. */
final class Promise7Test {
    public static void main(String[] args) {
        Check check = new Check();
        which(check);
        sizes(check);
        inMacros(check);
        refused(check);
        check.finish();
    }

    private static void which(Check check) {
        check.statements("");
        check.statements("; nothing\n\n  \n");
        check.statements(".set k, 1\n.macro m\n.end\nm\n");
        check.statements("a:\nb: .set k, 1\n.macro m\nnop\n.end\nc: m\nd: nop\n",
                1, 0, 0, 0, 2, 0, 0, 0, 6, 0, 0, 0, 6, 0, 1, 0, 7, 1, 1, 0);
    }

    private static void sizes(Check check) {
        check.statements("nop\nadd r1, r1\nsub r1, r1\nlw r1, =1\nli r1, 1\nb 0\nbz r0, 0",
                1, 0, 1, 0, 2, 1, 1, 0, 3, 2, 1, 0, 4, 3, 1, 0, 5, 4, 1, 0, 6, 5, 1, 0, 7, 6, 1, 0);
        check.statements("li r1, 256\nb 100\nbz r1, 100\nnop", 1, 0, 2, 1, 2, 2, 2, 1, 3, 4, 2, 1, 4, 6, 1, 0);
        check.statements("\n.word 1,2,3\n.space 7\n.space 0\nnop", 2, 0, 3, 0, 3, 3, 7, 0, 4, 10, 0, 0, 5, 10, 1, 0);
        check.statements(".pool\nlw r1, =1\nlw r1, =1\n.pool\n.pool\nlw r1, =2",
                1, 0, 0, 0, 2, 0, 1, 0, 3, 1, 1, 0, 4, 2, 2, 0, 5, 4, 0, 0, 6, 4, 1, 0);
    }

    private static void inMacros(Check check) {
        check.statements(".macro i\nnop\n.end\n.macro o\ni\n\nx&n: i\n.end\nnop\no\nnop",
                9, 0, 1, 0, 10, 1, 1, 0, 10, 2, 0, 0, 10, 2, 1, 0, 11, 3, 1, 0);
    }

    private static void refused(Check check) {
        AssembleLines x = check.assembled("nop\nnop");
        int[][] none = {{2, 0}, {-1, 0}, {0, 4}, {0, -1}, {1, 4}, {400, 0}, {401, 0}, {Integer.MAX_VALUE, 0},
            {Integer.MIN_VALUE, 0}, {0, Integer.MAX_VALUE}, {0, Integer.MIN_VALUE}};
        for (int[] call : none) {
            check.throwing("statement(" + call[0] + ", " + call[1] + ")", IndexOutOfBoundsException.class,
                    () -> x.statement(call[0], call[1]));
        }
        AssembleLines full = check.assembled("nop\n".repeat(400));
        check.same("the last one's place", full.statement(399, 1), 399);
        check.same("the last one's line", full.statement(399, 0), 400);
        check.throwing("statement(400, 0)", IndexOutOfBoundsException.class, () -> full.statement(400, 0));
    }
}
