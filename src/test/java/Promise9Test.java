/** Promise 9: count. */
final class Promise9Test {
    public static void main(String[] args) {
        Check check = new Check();
        all(check);
        none(check);
        behindErrors(check);
        check.finish();
    }

    private static void all(Check check) {
        AssembleLines x = check.assembled(".set k, 1\n.set l, 2\n.macro m\nnop\n.end\n.macro n\nm\nm\n.end\n.macro o\n.end\n"
                + "a: n\nb: li r1, 400\nc: b 100\nlw r1, =1\n.pool\n");
        Check.feed(x, "nop  ");
        int[] due = {5, 8, 7, 3, 2, 3, 3, 2, 0, 2};
        for (int what = 0; what < due.length; what++) {
            check.same("count(" + what + ")", x.count(what), due[what]);
        }
    }

    private static void none(Check check) {
        AssembleLines x = check.assembled("nop");
        for (int what : new int[] {-1, 10, 11, 256, Integer.MAX_VALUE, Integer.MIN_VALUE}) {
            check.same("count(" + what + ")", x.count(what), AssembleLines.NONE);
        }
    }

    private static void behindErrors(Check check) {
        AssembleLines x = Check.fed(".set k, 1\n.macro m\nnop\n.end\na: m\nli r1, 400\nb x\nb y");
        check.throwing("assemble()", IllegalArgumentException.class, x::assemble);
        Check.feed(x, "nop");
        int[] due = {3, 0, 0, 0, 0, 0, 0, 0, 2, 0};
        for (int what = 0; what < due.length; what++) {
            check.same("count(" + what + ") behind errors", x.count(what), due[what]);
        }
        check.same("count(10) behind errors", x.count(10), AssembleLines.NONE);
    }
}
