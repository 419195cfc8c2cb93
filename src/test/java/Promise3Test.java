/** Promise 3: end. */
final class Promise3Test {
    public static void main(String[] args) {
        Check check = new Check();
        lengths(check);
        which(check);
        refused(check);
        check.finish();
    }

    private static void lengths(Check check) {
        for (int n = 0; n <= 16; n++) {
            AssembleLines x = new AssembleLines();
            x.feed(0, 0, 0, 0);
            x.feed(0, 0, 0, 0);
            check.same("end(" + n + ")", x.end(n), 16 + n);
            check.same("count(0)", x.count(0), 16 + n);
        }
    }

    private static void which(Check check) {
        AssembleLines x = Check.fed(".word 1,2,3,4,56");
        x.end(13);
        check.same("four words are left", x.assemble(), 4);
        AssembleLines y = Check.fed(".word 1,2,3,4,5,6,7,8\n   .word 9");
        // Sixteen bytes go twice: the last sixteen are then those that stood ahead.
        check.same("end(0)", y.end(0), 16);
        check.same("end(7)", y.end(7), 7);
        check.throwing("only .word and a digit are left", IllegalStateException.class, () -> y.end(7));
        check.same("one word is left", y.assemble(), 1);
    }

    private static void refused(Check check) {
        AssembleLines x = new AssembleLines();
        check.throwing("end(0) of nothing", IllegalStateException.class, () -> x.end(0));
        check.throwing("end(16) of nothing", IllegalStateException.class, () -> x.end(16));
        for (int n : new int[] {-1, 17, 16 + 256, Integer.MIN_VALUE, Integer.MAX_VALUE}) {
            check.throwing("end(" + n + ") of nothing", IllegalArgumentException.class, () -> x.end(n));
        }
        x.feed(0, 0, 0, 0);
        check.throwing("end(17)", IllegalArgumentException.class, () -> x.end(17));
        check.throwing("end(-1)", IllegalArgumentException.class, () -> x.end(-1));
        check.same("count(0) behind it", x.count(0), 16);
        check.same("end(15)", x.end(15), 15);
        check.throwing("end(15) of 15", IllegalStateException.class, () -> x.end(15));
        check.throwing("end(17) of 15", IllegalArgumentException.class, () -> x.end(17));
        check.same("count(0) behind that", x.count(0), 15);
    }
}
