/** Promise 4: assemble. */
final class Promise4Test {
    private static final String WHOLE = ".set k, 2\n.macro m\nnop\n.end\na: m\nli r1, 300\nlw r1, =k\n";

    public static void main(String[] args) {
        Check check = new Check();
        answers(check);
        whatWasThereIsGone(check);
        errorsLeaveNothing(check);
        manyTimes(check);
        check.finish();
    }

    private static void answers(Check check) {
        AssembleLines x = Check.fed(WHOLE);
        check.same("assemble()", x.assemble(), 5);
        check.same("the text is empty", x.count(0), 0);
        check.same("assemble() of nothing", x.assemble(), 0);
        check.same("words", x.count(1), 0);
        check.same("assemble() of blanks and remarks", new AssembleLines().assemble(), 0);
        check.same("blank lines", Check.fed("\n\n  ; a remark\n").assemble(), 0);
        check.same("65535 words", Check.fed(".space 1000\n".repeat(65) + ".space 535").assemble(), 65535);
    }

    private static void whatWasThereIsGone(Check check) {
        AssembleLines x = check.assembled(WHOLE);
        Check.feed(x, "nop");
        x.assemble();
        check.same("words", x.count(1), 1);
        check.same("statements", x.count(2), 1);
        check.same("labels", x.count(3), 0);
        check.same("set names", x.count(4), 0);
        check.same("macros", x.count(5), 0);
        check.same("calls", x.count(6), 0);
        check.same("rounds", x.count(7), 1);
        check.same("long ones", x.count(9), 0);
        check.throwing("word(1)", IndexOutOfBoundsException.class, () -> x.word(1));
        Check.feed(x, "m");
        check.throwing("a macro of before", IllegalArgumentException.class, x::assemble);
        check.same("it is unknown", x.error(0, 0), 2);
        Check.feed(x, ".set k, 5\na: nop");
        check.same("names of before are free", x.assemble(), 1);
        check.same("the error is gone", x.count(8), 0);
        check.same("set name", x.name(0, 1), 5);
    }

    private static void errorsLeaveNothing(Check check) {
        AssembleLines x = check.assembled(WHOLE);
        Check.feed(x, WHOLE + "foo\n");
        check.throwing("an unknown operation", IllegalArgumentException.class, x::assemble);
        nothingIsThere(check, x);
        Check.feed(x, WHOLE + "b nowhere\n");
        check.throwing("an unknown name", IllegalArgumentException.class, x::assemble);
        nothingIsThere(check, x);
        Check.feed(x, ".space 1000\n".repeat(65) + ".space 536");
        check.throwing("65536 words", IllegalArgumentException.class, x::assemble);
        nothingIsThere(check, x);
        check.same("assemble() of nothing", x.assemble(), 0);
        check.same("no errors", x.count(8), 0);
    }

    private static void nothingIsThere(Check check, AssembleLines x) {
        for (int what = 0; what <= 9; what++) {
            check.same("count(" + what + ") behind errors", x.count(what), what == 8 ? 1 : 0);
        }
        check.throwing("word(0)", IndexOutOfBoundsException.class, () -> x.word(0));
        check.throwing("statement(0, 0)", IndexOutOfBoundsException.class, () -> x.statement(0, 0));
        check.throwing("name(0, 0)", IndexOutOfBoundsException.class, () -> x.name(0, 0));
        check.throwing("name(0, 1)", IndexOutOfBoundsException.class, () -> x.name(0, 1));
    }

    private static void manyTimes(Check check) {
        AssembleLines x = new AssembleLines();
        for (int i = 0; i < 100; i++) {
            Check.feed(x, "a: .word " + i + "\nb a");
            check.same("assemble() again", x.assemble(), 2);
            check.same("word(0) again", x.word(0), i);
            check.same("word(1) again", x.word(1), 5 << 12 | 62);
        }
    }
}
