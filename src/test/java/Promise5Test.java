/** Promise 5: error. */
final class Promise5Test {
    public static void main(String[] args) {
        Check check = new Check();
        answers(check);
        refused(check);
        atMostFifty(check);
        latest(check);
        check.finish();
    }

    private static AssembleLines wrong(String text) {
        AssembleLines x = Check.fed(text);
        try {
            x.assemble();
        } catch (IllegalArgumentException e) {
            return x;
        }
        return x;
    }

    private static void answers(Check check) {
        AssembleLines x = wrong("nop 1\nnop\nfoo\n\na: nop\na: nop\n.set b, c\n.space 1001");
        check.same("count(8)", x.count(8), 5);
        int[] due = {1, 1, 2, 3, 3, 6, 4, 7, 5, 8};
        for (int i = 0; i < due.length; i++) {
            check.same("error(" + i / 2 + ", " + i % 2 + ")", x.error(i / 2, i % 2), due[i]);
        }
    }

    private static void refused(Check check) {
        AssembleLines x = wrong("foo\nfoo");
        int[][] none = {{2, 0}, {2, 1}, {-1, 0}, {-1, 1}, {0, 2}, {0, -1}, {1, 2}, {50, 0},
            {Integer.MAX_VALUE, 0}, {Integer.MIN_VALUE, 0}, {0, Integer.MAX_VALUE}, {0, Integer.MIN_VALUE}};
        for (int[] call : none) {
            check.throwing("error(" + call[0] + ", " + call[1] + ")", IndexOutOfBoundsException.class,
                    () -> x.error(call[0], call[1]));
        }
    }

    private static void atMostFifty(Check check) {
        for (int lines : new int[] {49, 50, 51, 400}) {
            AssembleLines x = wrong("foo\n".repeat(lines));
            int told = Math.min(lines, 50);
            check.same("errors of " + lines, x.count(8), told);
            check.same("the last one's line", x.error(told - 1, 1), told);
            check.throwing("one behind it", IndexOutOfBoundsException.class, () -> x.error(told, 0));
        }
        AssembleLines two = wrong("b x\n".repeat(60));
        check.same("errors of turn two", two.count(8), 50);
        check.same("the last one's line", two.error(49, 1), 50);
    }

    private static void latest(Check check) {
        AssembleLines x = wrong("foo\nfoo");
        Check.feed(x, "\n\nnop 1");
        check.same("until assemble() the errors stay", x.error(1, 1), 2);
        check.throwing("assemble()", IllegalArgumentException.class, x::assemble);
        check.same("count(8)", x.count(8), 1);
        check.same("error(0, 0)", x.error(0, 0), 1);
        check.same("error(0, 1)", x.error(0, 1), 3);
        Check.feed(x, "nop");
        x.assemble();
        check.throwing("error(0, 0) behind a right text", IndexOutOfBoundsException.class, () -> x.error(0, 0));
    }
}
