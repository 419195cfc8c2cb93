/** Promise 8: name. */
final class Promise8Test {
    public static void main(String[] args) {
        Check check = new Check();
        labels(check);
        sets(check);
        refused(check);
        check.finish();
    }

    private static void labels(Check check) {
        AssembleLines x = check.assembled("z: nop\n.set q, 9\ny: .set p, 8\nnop\n.macro m\nl&n: li r1, 500\n.end\n"
                + "x: m\nm\nw:");
        check.same("labels", x.count(3), 6);
        int[] due = {0, 1, 2, 2, 4, 6};
        for (int k = 0; k < due.length; k++) {
            check.same("name(" + k + ", 0)", x.name(k, 0), due[k]);
        }
        AssembleLines pool = check.assembled("lw r1, =1\na: .pool\nb:");
        check.same("a label ahead of a pool", pool.name(0, 0), 1);
        check.same("a label behind a pool", pool.name(1, 0), 2);
        AssembleLines full = check.assembled(manyLabels(400));
        check.same("the last label", full.name(399, 0), 0);
    }

    static String manyLabels(int n) {
        StringBuilder text = new StringBuilder();
        for (int i = 0; i < n; i++) {
            text.append('a').append(i).append(":\n");
        }
        return text.toString();
    }

    private static void sets(Check check) {
        AssembleLines x = check.assembled(".set a, 5\nl: nop\n.set b, a - 7\n.set c, 0xffffffff\n.set d, 0x7fffffff + 1\n"
                + ".set e, - b + a + 999999999");
        int[] due = {5, -2, -1, Integer.MIN_VALUE, 1000000006};
        check.same("set names", x.count(4), due.length);
        for (int k = 0; k < due.length; k++) {
            check.same("name(" + k + ", 1)", x.name(k, 1), due[k]);
        }
    }

    private static void refused(Check check) {
        AssembleLines x = check.assembled("a:\nb:\n.set k, 1");
        int[][] none = {{2, 0}, {-1, 0}, {1, 1}, {-1, 1}, {0, 2}, {0, -1}, {400, 0}, {400, 1}, {Integer.MAX_VALUE, 0},
            {Integer.MIN_VALUE, 0}, {Integer.MAX_VALUE, 1}, {Integer.MIN_VALUE, 1}, {0, Integer.MAX_VALUE},
            {0, Integer.MIN_VALUE}};
        for (int[] call : none) {
            check.throwing("name(" + call[0] + ", " + call[1] + ")", IndexOutOfBoundsException.class,
                    () -> x.name(call[0], call[1]));
        }
    }
}
