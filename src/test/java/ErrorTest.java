/** The errors of both turns, their order and their limits. */
final class ErrorTest {
    public static void main(String[] args) {
        Check check = new Check();
        twice(check);
        notSet(check);
        spaceRange(check);
        orderInALine(check);
        refusedLinesTellNoNames(check);
        statementLimit(check);
        setLimit(check);
        turnTwo(check);
        tooManyWords(check);
        check.finish();
    }

    private static void twice(Check check) {
        check.errors("a: nop\na: nop\na:\n", 3, 2, 3, 3);
        check.errors(".set a, 1\n.set a, 1\na: nop", 3, 2, 3, 3);
        check.errors("a: nop\n.set a, 1", 3, 2);
        check.errors("a: .set a, 1", 3, 1);
        check.right("a: .set b, 1\nc: nop");
        check.errors("a: .set b, 1\nb: nop", 3, 2);
    }

    private static void notSet(Check check) {
        check.errors(".set a, b\n.set a, a\n.set b, .", 4, 1, 4, 2, 4, 3);
        check.errors("l: nop\n.set a, l\n.space l\n.space .\n.space x", 4, 2, 4, 3, 4, 4, 4, 5);
        check.errors(".space b\n.set b, 1\n.space b", 4, 1);
        check.errors(".set a, r1", 4, 1);
        check.errors("a: .set b, a", 4, 1);
        check.errors(".space a+b+.", 4, 1);
        check.right(".set a, 1\n.set b, a+a\n.space b - a");
    }

    private static void spaceRange(Check check) {
        check.right(".space 0\n.space 1000\n.space 2000-1000\n.space 1 - 1");
        check.errors(".space 1001\n.space -1\n.space 0x80000000\n.space 0x7fffffff+1\n.set k, -1\n.space k",
                5, 1, 5, 2, 5, 3, 5, 4, 5, 6);
        check.right(".space 0xffffffff + 1");
    }

    private static void orderInALine(Check check) {
        check.errors("a: nop\na: foo )\n", 2, 2);
        check.errors("a: nop\na: nop )\n", 1, 2);
        check.errors("a: nop\nr1: foo\n", 1, 2);
        check.errors("a: nop\na: .space x", 3, 2);
        check.errors("a: nop\na: .space 1001", 3, 2);
        check.errors(".space 1001 + x", 4, 1);
        check.errors("a: nop\n.set a, x", 3, 2);
        check.errors("nop\n".repeat(400) + "a: foo\nnop 1\n.space x\n.space 1001\nnop", 2, 401, 1, 402, 4, 403, 5, 404, 6, 405);
    }

    private static void refusedLinesTellNoNames(Check check) {
        check.errors("a: nop 1\na: nop", 1, 1);
        check.errors("a: foo\n.set a, 1", 2, 1);
        check.errors(".set a, b\na: nop", 4, 1);
        check.errors("a: .space 1001\n.set b, a\na:", 5, 1, 4, 2);
        check.errors("a:\na: .set b, 1\nb:", 3, 2);
        // Turn two is not there, so no name is missed.
        check.errors("foo\nb x\nli r1, 70000", 2, 1);
    }

    private static void statementLimit(Check check) {
        check.right("nop\n".repeat(400));
        check.errors("nop\n".repeat(402), 6, 401, 6, 402);
        check.right(Promise8Test.manyLabels(400));
        check.errors(Promise8Test.manyLabels(401), 6, 401);
        check.right("nop\n".repeat(400) + ".set a, 1\n.macro m\n.end\nm\n\n;");
        check.errors("nop\n".repeat(400) + "a: .set a1, 1\n.set a, 1\n.macro m\n.end\nb: m\n.set b, a1", 6, 401, 6, 405, 4, 406);
        check.errors("nop\n".repeat(400) + ".pool\n.word 1\n.space 1\na:", 6, 401, 6, 402, 6, 403, 6, 404);
        // All the expressions that there can be.
        String word = ".macro m\n.word 1,2,3,4,5,6,7,e+8\n.end\n.macro t\nm\nm\nm\nm\n.word 1,2,3,4,5,6,7,8\n.end\n";
        AssembleLines x = check.assembled(word + "t\n".repeat(20) + ".word e,e,e,e,e,e,e,e\n".repeat(150) + "e:");
        check.same("words", x.count(1), 8 * (20 * 5 + 150));
        check.same("a word of a name", x.word(7), 8 + 2000);
        for (int i = 800; i < 2000; i += 7) {
            check.same("word(" + i + ")", x.word(i), 2000);
        }
        String full = ".macro m\n" + ".word 1,2,3,4,5,6,7,8\n".repeat(4) + ".set x&n, 5\n.end\n";
        AssembleLines y = check.assembled(full + "m\n".repeat(100) + ".set y, 6\n");
        check.same("words of 400 full statements", y.count(1), 3200);
        check.same("the last word", y.word(3199), 8);
        check.same("set names beside them", y.count(4), 101);
    }

    private static void setLimit(Check check) {
        check.right(sets(400));
        AssembleLines x = check.assembled(sets(400));
        check.same("set names", x.count(4), 400);
        check.same("the last one", x.name(399, 1), 9);
        check.throwing("name(400, 1)", IndexOutOfBoundsException.class, () -> x.name(400, 1));
        check.errors(sets(400) + "\n.set a,1\n.set b,x\na:", 6, 88, 4, 89);
    }

    /** Set names, five to a call, so that the text has room for them all; the macro's seven lines stand ahead. */
    private static String sets(int n) {
        StringBuilder text = new StringBuilder(".macro m\n");
        for (int i = 0; i < 5; i++) {
            text.append(".set &0").append((char) ('a' + i)).append(",").append(i + 5).append('\n');
        }
        text.append(".end\n");
        for (int i = 0; i < n / 5; i++) {
            text.append("m x").append(i).append(i == n / 5 - 1 ? "" : "\n");
        }
        return text.toString();
    }

    private static void turnTwo(Check check) {
        check.errors("b x", 4, 1);
        check.errors("b x+y", 4, 1);
        check.errors(".word x, 1, 70000, y\n.word 2, z", 4, 1, 5, 1, 4, 1, 4, 2);
        check.errors("lw r1, =x\nlw r2, =70000\n.space 64", 4, 1, 5, 2);
        check.errors("li r1, x\nbz r1, x\nb 70000\nli r1, 70000", 4, 1, 4, 2, 5, 3, 5, 4);
        check.errors("a: nop\n.word -32769+a, a+65536", 5, 2, 5, 2);
        check.errors(".space 1\n.set k, 1\nl: .set m, 1\nb x", 4, 4);
        check.right("b x\nx:\n.word y\n.set y, 5");
    }

    private static void tooManyWords(Check check) {
        String spaces = ".space 1000\n".repeat(65);
        check.right(spaces + ".space 535");
        check.errors(spaces + ".space 536", 5, 0);
        check.errors(spaces + ".space 535\n.pool\nnop", 5, 0);
        check.errors(spaces + ".space 536\nb x\n.word 70000", 5, 0);
        check.errors(spaces + ".space 534\nlw r1, =1", 5, 0);
        check.right(spaces + ".space 533\nlw r1, =1");
        check.errors(spaces + ".space 534\nb e-40000\ne:", 5, 0);
        check.right(spaces + ".space 533\nb e-40000\ne:");
        check.errors(spaces + ".space 535\nb 0 )", 1, 67);
    }
}
