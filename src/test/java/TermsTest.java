/** The document's terms: text, lines, names, operations, operands, expressions. */
final class TermsTest {
    public static void main(String[] args) {
        Check check = new Check();
        lines(check);
        bytes(check);
        names(check);
        operations(check);
        operands(check);
        expressions(check);
        check.finish();
    }

    private static void lines(Check check) {
        check.errors("foo", 2, 1);
        check.errors("foo\n", 2, 1);
        check.errors("\n\nfoo\n\n", 2, 3);
        check.errors("; foo\n ;foo\nnop;foo\nfoo;", 2, 4);
        check.words("nop;1\nnop ; 1\n;\n .word 1;,2\n", 0, 0, 1);
        check.errors(".word 1,;2", 1, 1);
        check.words("  nop  \n      \n", 0);
        check.words("a:nop\nb:   nop\n  c: .word a,b,c", 0, 0, 0, 1, 2);
        check.errors("a : nop", 2, 1);
        check.errors("a: b: nop", 1, 1);
        check.errors("a: b:", 1, 1);
        check.errors(": nop", 1, 1);
        check.errors(":", 1, 1);
        check.errors("1: nop", 1, 1);
        check.errors("1", 1, 1);
        check.errors(", nop", 1, 1);
        check.errors("nop,", 1, 1);
        check.errors("nop:nop:", 1, 1);
        check.right("nop:nop");
    }

    private static void bytes(Check check) {
        for (int letter : new int[] {0, 1, 9, 13, 31, 127, 128, 160, 255}) {
            check.errors("nop" + (char) letter, 1, 1);
            check.errors("" + (char) letter, 1, 1);
            check.errors("foo " + (char) letter + "\nfoo", 1, 1, 2, 2);
            check.right("nop ;" + (char) letter);
            check.right("; " + (char) letter);
        }
        check.errors("\nnop ~", 1, 2);
        check.errors("Nop", 1, 1);
        check.errors("nop\r\nnop", 1, 1);
    }

    private static void names(Check check) {
        check.words("_: nop\n_a9_: b _\na2345678_0: .word _, _a9_, a2345678_0", 0, 0x503e, 0, 1, 2);
        check.errors("a23456789_1: nop", 1, 1);
        check.errors("b a23456789_1", 1, 1);
        check.errors("a23456789_1", 1, 1);
        check.errors("a23456789_ 1", 2, 1);
        check.errors(".set a23456789_1, 1", 1, 1);
        check.errors(".macro a23456789_1\n.end", 1, 1);
        check.errors("A: nop", 1, 1);
        check.errors("aB: nop", 1, 1);
        allDifferent(check);
        for (int r = 0; r <= 7; r++) {
            check.errors("r" + r + ": nop", 1, 1);
            check.errors(".set r" + r + ", 1", 1, 1);
            check.errors("b r" + r, 4, 1);
        }
        check.right("r8: nop\nr: nop\nr00: nop\n.set r9, 1\nr1_: b r1_\nb r8+r-r00+r9");
        check.right("li: nop\nnop: nop\nlw: b li + nop + lw");
    }

    /** Names that are near to one another, and so many that some share whatever they are sorted by. */
    private static void allDifferent(Check check) {
        check.right("a9:\na_:\naz:\na0:\na:\nb:\naa:\n_:\nz:\nz9:\na1:\n__:\n_9:\n_a:\na__:\na_9:\na9_:");
        StringBuilder text = new StringBuilder();
        for (int i = 0; i < 256; i++) {
            text.append('a').append(i).append(":nop\n");
        }
        for (int i = 0; i < 256; i++) {
            text.append(i % 8 == 0 ? "\n.word a" : ",a").append(i);
        }
        AssembleLines x = check.assembled(text.toString());
        for (int i = 0; i < 256; i++) {
            check.same("the place of label a" + i, x.word(256 + i), i);
        }
    }

    private static void operations(Check check) {
        check.errors("foo\n.foo\n.foofoofoofoofoo\n.nop\nword 1\n.li r1, 1", 2, 1, 2, 2, 2, 3, 2, 4, 2, 5, 2, 6);
        check.errors(".word1\n.\n. word 1\n..word\n.word,1\n.WORD 1", 1, 1, 1, 2, 1, 3, 1, 4, 1, 5, 1, 6);
        check.errors("nop+\nb-1\nb=1\nb.\nli,r1", 1, 1, 1, 2, 1, 3, 1, 4, 1, 5);
        check.errors("a: foo 1,,,\nfoo: foo", 2, 1, 2, 2);
        check.errors(".x\n.z\n.zz 1\n.end", 2, 1, 2, 2, 2, 3, 1, 4);
        check.errors("a: .end x", 1, 1);
    }

    private static void operands(Check check) {
        check.errors("nop 1\n.pool 1\nadd r1\nadd r1, 1\nadd r1, r2, r3\nadd r1 r2\nadd , r1\nsub\nsub r1,",
                1, 1, 1, 2, 1, 3, 1, 4, 1, 5, 1, 6, 1, 7, 1, 8, 1, 9);
        check.errors("li\nli r1\nli r1,\nli r1 1\nli 1, r1\nli r8, 1\nli r1, 1, 2\nli r1, = 1",
                1, 1, 1, 2, 1, 3, 1, 4, 1, 5, 1, 6, 1, 7, 1, 8);
        check.errors("b\nb 1, 2\nbz 1\nbz r1\nbz r1, 1, 2\nlw r1, 1\nlw r1 = 1\nlw r1, =\nlw = 1\nlw r1, = 1, 2\nlw r1, == 1",
                1, 1, 1, 2, 1, 3, 1, 4, 1, 5, 1, 6, 1, 7, 1, 8, 1, 9, 1, 10, 1, 11);
        check.errors(".word\n.word 1,\n.word ,1\n.word 1,,2\n.word 1 2\n.word 1,2,3,4,5,6,7,8,9\n.space\n.space 1, 2",
                1, 1, 1, 2, 1, 3, 1, 4, 1, 5, 1, 6, 1, 7, 1, 8);
        check.errors(".set\n.set a\n.set a,\n.set a 1\n.set 1, 1\n.set a, 1, 2\n.set a = 1\n.set , 1",
                1, 1, 1, 2, 1, 3, 1, 4, 1, 5, 1, 6, 1, 7, 1, 8);
        check.errors("add r01, r1\nadd r 1, r1\nadd R1, r1\nadd r1x, r1", 1, 1, 1, 2, 1, 3, 1, 4);
        check.words("  lw   r1  ,  =  1  \nlw r1,=2\nbz r1,.\nadd r1,r2\n.word 1 , 2,3  ;\n.space   1  ",
                0x9207, 0x9207, 0x721f, 0x3280, 1, 2, 3, 0, 1, 2);
    }

    private static void expressions(Check check) {
        check.words(".word 1+2, 3-4, -5, +6, - 7 + 8, 1 + 2 - 3 + 4", 3, 0xffff, 0xfffb, 6, 1, 4);
        check.words(".word 0x0, 0xf, 0xabcd, 0x0000ffff, 007, 000000009", 0, 15, 0xabcd, 0xffff, 7, 9);
        check.words(".word 0xffffffff, 0xffff8000, 999999999-999999998", 0xffff, 0x8000, 1);
        check.words(".word 0x7fffffff + 0x7fffffff + 5, 0x80000000 - 1 - 0x7fffffff", 3, 0);
        check.words("nop\n.word .+1, .-1, -., .+., .-.", 0, 2, 0, 0xffff, 2, 0);
        check.words("a: nop\nb: .word b-a, a-b, a+b+c, c - . ; .word\n.set c, 300", 0, 1, 0xffff, 301, 299);
        String[] wrong = {"1+", "+", "-", "--1", "+-1", "1++2", "1 2", "0x", "0x123456789", "1234567890", "0xg", "0X1",
            "12a", "1.", ".1", "..", ". .", "a b", "(1)", "1*2", "0x1 f", "a:", "=1", "&0", "'a'", "1+a23456789_1", "0x-1"};
        for (String e : wrong) {
            check.errors(".word " + e, 1, 1);
            check.errors(".set q, " + e, 1, 1);
            check.errors("li r1, " + e, 1, 1);
        }
    }
}
