/** Promise 2: feed. */
final class Promise2Test {
    public static void main(String[] args) {
        Check check = new Check();
        lengths(check);
        order(check);
        room(check);
        behindAssemble(check);
        check.finish();
    }

    private static void lengths(Check check) {
        AssembleLines x = new AssembleLines();
        check.same("the first feed", x.feed(0, 0, 0, 0), 16);
        check.same("the second feed", x.feed(-1, -1, -1, -1), 32);
        x.end(3);
        check.same("a feed behind 19 bytes", x.feed(1, 2, 3, 4), 35);
        check.same("count(0)", x.count(0), 35);
    }

    private static void order(Check check) {
        AssembleLines x = new AssembleLines();
        // ".word 258,0x1234"
        x.feed(0x2e776f72, 0x64203235, 0x382c3078, 0x31323334);
        check.same("words", x.assemble(), 2);
        check.same("word(0)", x.word(0), 258);
        check.same("word(1)", x.word(1), 0x1234);
    }

    private static void room(Check check) {
        AssembleLines x = new AssembleLines();
        for (int i = 1; i <= 256; i++) {
            // sixteen blanks, so that the text stays right
            check.same("feed " + i, x.feed(0x20202020, 0x20202020, 0x20202020, 0x20202020), 16 * i);
        }
        check.throwing("feed into a full text", IllegalStateException.class, () -> x.feed(1, 2, 3, 4));
        check.same("count(0) behind it", x.count(0), 4096);
        check.same("end(15)", x.end(15), 4095);
        check.throwing("feed behind 4095", IllegalStateException.class, () -> x.feed(1, 2, 3, 4));
        check.same("end(1)", x.end(1), 4080);
        check.same("feed behind 4080", x.feed(0x206e6f70, 0x20202020, 0x20202020, 0x20202020), 4096);
        check.same("words of a full text", x.assemble(), 1);
        AssembleLines y = Check.fed(" ".repeat(4081));
        check.throwing("feed behind 4081", IllegalStateException.class, () -> y.feed(0, 0, 0, 0));
        check.same("count(0) behind it", y.count(0), 4081);
        check.same("nothing of it is there", y.assemble(), 0);
    }

    private static void behindAssemble(Check check) {
        AssembleLines x = check.assembled("nop\nnop\n");
        Check.feed(x, ".word 7         ");
        check.same("words until assemble()", x.count(1), 2);
        check.same("word(1) until assemble()", x.word(1), 0);
        check.same("words behind it", x.assemble(), 1);
        check.same("word(0) behind it", x.word(0), 7);
    }
}
