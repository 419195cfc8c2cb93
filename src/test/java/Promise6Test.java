/** Promise 6: word; the forms of all the instructions. */
final class Promise6Test {
    public static void main(String[] args) {
        Check check = new Check();
        withoutValues(check);
        li(check);
        b(check);
        bz(check);
        lw(check);
        data(check);
        refused(check);
        check.finish();
    }

    private static void withoutValues(Check check) {
        check.words("nop", 0);
        check.words("add r0, r0", 0x3000);
        check.words("add r7, r1", 0x3e40);
        check.words("add r1 , r7", 0x33c0);
        check.words("sub r0,r1", 0x4040);
        check.words("sub r5, r6", 0x4b80);
    }

    private static void li(Check check) {
        check.words("li r0, 0", 0x1000);
        check.words("li r7, 255", 0x1eff);
        check.words("li r1, -1", 0x13ff);
        check.words("li r2, -256", 0x1500);
        check.words("li r2, 256", 0x2400, 256);
        check.words("li r2, -257", 0x2400, 0xfeff);
        check.words("li r3, 65535", 0x2600, 0xffff);
        check.words("li r3, -32768", 0x2600, 0x8000);
        check.words("li r3, 0xffffffff", 0x17ff);
        check.errors("li r3, 65536", 5, 1);
        check.errors("li r3, -32769", 5, 1);
        check.errors("li r3, 0x7fffffff", 5, 1);
        check.errors("li r3, 0x80000000", 5, 1);
    }

    private static void b(Check check) {
        check.words("b 0", 0x5000 | 63);
        check.words("b .", 0x5000 | 63);
        check.words("b .+1", 0x5000);
        check.words("b 32", 0x5000 | 31);
        check.words("b 33", 0x6000, 33);
        check.words("b -31", 0x5000 | 32);
        check.errors("b -32", 5, 1);
        check.words("b 65535", 0x6000, 0xffff);
        check.errors("b 65536", 5, 1);
        check.words(".space 2\nb .-31", 0, 0, 0x5000 | 32);
        check.errors(".space 2\nb .-32", 5, 2);
        check.words("nop\nb 0xffffffff", 0, 0x5000 | 61);
    }

    private static void bz(Check check) {
        check.words("bz r0, 0", 0x7000 | 31);
        check.words("bz r5, 16", 0x7a00 | 15);
        check.words("bz r5, 17", 0x8a00, 17);
        check.words("bz r1, -15", 0x7200 | 16);
        check.errors("bz r1, -16", 5, 1);
        check.words("bz r7, 65535", 0x8e00, 0xffff);
        check.errors("bz r7, 65536", 5, 1);
    }

    private static void lw(Check check) {
        check.words("lw r0, = 5", 0x9000, 5);
        check.words("lw r7, = -32768", 0x9e00, 0x8000);
        check.words("lw r7, = 65535", 0x9e00, 65535);
        check.errors("lw r7, = 65536", 5, 1);
        check.errors("lw r7, = -32769", 5, 1);
        check.words("lw r1, = 7\nlw r2, = 8\n.pool\nlw r3, = 9", 0x9201, 0x9401, 7, 8, 0x9600, 9);
        check.words("nop\nlw r1, =.\nnop\n.pool", 0, 0x9201, 0, 1);
        check.words("lw r1, =x\nx: .pool", 0x9200, 1);
        AssembleLines far = check.assembled("lw r1, = 9\n.space 63\n");
        check.same("a literal 63 words behind", far.word(0), 0x923f);
        check.same("the literal", far.word(64), 9);
        check.errors("lw r1, = 9\n.space 64\n", 5, 1);
        check.errors("lw r1, = 9\n.space 63\n.pool\nlw r1, = 9\n.space 64", 5, 4);
        check.right("lw r1, = 9\n.space 63\n.pool\n.pool\n.space 64");
    }

    private static void data(Check check) {
        check.words(".word 1", 1);
        check.words(".word 1,2,3,4,5,6,7,-8", 1, 2, 3, 4, 5, 6, 7, 0xfff8);
        check.words(".word -32768, 65535, ., .", 0x8000, 0xffff, 0, 0);
        check.words("nop\n.word ., .", 0, 1, 1);
        check.errors(".word 65536", 5, 1);
        check.errors(".word -32769, 65536", 5, 1, 5, 1);
        check.words(".space 3\n.word 4", 0, 0, 0, 4);
        check.words(".space 0");
        check.words(".pool");
        check.words(".word 4\n.space 2", 4, 0, 0);
    }

    private static void refused(Check check) {
        AssembleLines x = check.assembled(".word 9\nlw r1, = 8\n");
        check.same("word(2)", x.word(2), 8);
        for (int i : new int[] {3, -1, 65535, Integer.MAX_VALUE, Integer.MIN_VALUE}) {
            check.throwing("word(" + i + ")", IndexOutOfBoundsException.class, () -> x.word(i));
        }
        AssembleLines spaces = check.assembled(".space 1000\n".repeat(65) + ".space 534\n.word 65535");
        check.same("the last word", spaces.word(65534), 65535);
        check.same("the word ahead", spaces.word(65533), 0);
        check.throwing("word(65535)", IndexOutOfBoundsException.class, () -> spaces.word(65535));
    }
}
