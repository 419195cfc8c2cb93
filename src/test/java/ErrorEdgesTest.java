/** The edges of statements, names and errors, sentence by sentence and on both sides. */
final class ErrorEdgesTest {
    private static final String FULL = "nop\n".repeat(400);
    private static final String SPACES = ".space 1000\n".repeat(65);

    public static void main(String[] args) {
        Check check = new Check();
        fourHundredStatements(check);
        whatIsNoStatement(check);
        fourHundredSetNames(check);
        fiftyErrors(check);
        oneErrorALine(check);
        errorOfALineIsNoStatement(check);
        unknown(check);
        twice(check);
        nameOfSetAndSpace(check);
        rangeOfSpace(check);
        orderInALine(check);
        turnTwoOnlyWithoutErrors(check);
        namesOfTurnTwo(check);
        operandByOperand(check);
        programsEnd(check);
        unknownNamesCountAsNothing(check);
        check.finish();
    }

    /** STATEMENTS are, in order, up to 400; DEEP: the 401st statement. */
    private static void fourHundredStatements(Check check) {
        String macro = ".macro m\n.end\n";
        String[] kinds = {"a:", "a: .set x, 1", "a: m", "nop", "li r1, 1", "add r1, r1", "sub r1, r1", "b .", "bz r1, .", "lw r1, =1",
            ".word 1", ".space 1", ".pool", "a: nop", "a: .pool"};
        for (String kind : kinds) {
            AssembleLines x = check.assembled(macro + "nop\n".repeat(399) + kind);
            check.same("statements up to " + kind, x.count(2), 400);
            check.same("the last one's line", x.statement(399, 0), 402);
            check.errors(macro + FULL + kind, 6, 403);
            check.errors(macro + FULL + "\n" + kind + "\nnop", 6, 404, 6, 405);
        }
        // All of them may have eight words, behind lines that are refused.
        String eight = ".macro m\n" + ".word 1,2,3,4,5,6,7,l\n".repeat(4) + ".end\n";
        String refused = ".word l,l,l,l,l,l,l,l,l\n";
        int[] due = new int[80];
        for (int i = 0; i < 80; i += 2) {
            due[i] = 1;
            due[i + 1] = 7 + i / 2;
        }
        check.errors(eight + refused.repeat(40) + "m\n".repeat(100), due);
        check.errors(eight + "m\n".repeat(100) + ".word 1,2,3,4,5,6,7,8\nli r1, 1\n" + refused, 6, 107, 6, 108, 1, 109);
        // Also those that calls bring.
        String four = ".macro m\nnop\nnop\nnop\nnop\n.end\n";
        check.right(four + "m\n".repeat(100));
        check.errors(four + "nop\n" + "m\n".repeat(100), 6, 107);
        check.errors(four + "nop\nnop\n" + "m\n".repeat(100) + "nop", 6, 108, 6, 108, 6, 109);
    }

    /** What is no statement may stand behind 400 of them. */
    private static void whatIsNoStatement(Check check) {
        check.right(FULL + "\n;\n.set a, 1\n.macro m\n.set b, 1\n.end\nm\n");
        AssembleLines x = check.assembled(FULL + ".set a, 1\n.macro m\n.set b, 1\n.end\nm\n");
        check.same("statements", x.count(2), 400);
        check.same("set names", x.count(4), 2);
        check.same("calls", x.count(6), 1);
        // A line with an error is none, so that one more has room.
        check.errors("nop 1\nfoo\n" + FULL, 1, 1, 2, 2);
        check.errors("nop 1\nfoo\n" + FULL + "nop", 1, 1, 2, 2, 6, 403);
    }

    /** DEEP: the 401st .. set name. */
    private static void fourHundredSetNames(Check check) {
        AssembleLines x = check.assembled(sets(399) + ".set z, 7");
        check.same("set names", x.count(4), 400);
        check.same("the last one", x.name(399, 1), 7);
        check.throwing("one behind it", IndexOutOfBoundsException.class, () -> x.name(400, 1));
        check.errors(sets(400) + ".set z, 7", 6, 110);
        check.errors(sets(400) + ".set z, 7\n.space z\n.set y, 7\nz: .set x, 1\nz:", 6, 110, 4, 111, 6, 112, 6, 113);
        // 1 to 4 are told ahead of it.
        check.errors(sets(400) + ".set z\n.set a1, 1\n.set z, z\nfoo\n.set z, 1", 1, 110, 3, 111, 4, 112, 2, 113, 6, 114);
        // Refused ones are not counted.
        check.errors(".set r1, 1\n.set z, z\n" + sets(400) + ".set z, 7", 1, 1, 4, 2, 6, 112);
    }

    /** Set names, from 396 on: four to each of 99 calls, and the others by themselves; 400 take 109 lines. */
    private static String sets(int n) {
        StringBuilder text = new StringBuilder(".macro m\n.set a&n, 1\n.set b&n, 2\n.set c&n, 3\n.set d&n, 4\n.end\n");
        text.append("m\n".repeat(99));
        for (int i = 396; i < n; i++) {
            text.append(".set x").append(i).append(", 1\n");
        }
        return text.toString();
    }

    /** ERRORS .. at most 50 (others are not told). */
    private static void fiftyErrors(Check check) {
        for (int n = 48; n <= 52; n++) {
            String[] texts = {"foo\n".repeat(n), "nop 1\n".repeat(n), "b x\n".repeat(n), ".word 65536\n".repeat(n),
                ".macro m\nfoo\n.end\n" + "m\n".repeat(n), ".word " + "x,".repeat(7) + "x\n" + "b x\n".repeat(n - 8)};
            int[] numbers = {2, 1, 4, 5, 2, 4};
            for (int i = 0; i < texts.length; i++) {
                AssembleLines x = Check.fed(texts[i]);
                check.throwing("assemble()", IllegalArgumentException.class, x::assemble);
                int told = Math.min(n, 50);
                check.same("errors of " + n, x.count(8), told);
                check.same("the last one", x.error(told - 1, 0), numbers[i]);
                check.throwing("the one behind it", IndexOutOfBoundsException.class, () -> x.error(told, 0));
            }
        }
        // The lines behind the fiftieth are still looked at, but nothing is told of them.
        AssembleLines x = Check.fed("foo\n".repeat(50) + "nop 1\nb x\n.macro m");
        check.throwing("assemble()", IllegalArgumentException.class, x::assemble);
        check.same("the fiftieth", x.error(49, 1), 50);
    }

    /** At most one a line (of each line that is put together, too, by itself). */
    private static void oneErrorALine(Check check) {
        check.errors("a:\na: .space 1001 + x", 3, 2);
        check.errors(".set r1, x + ", 1, 1);
        check.errors("nop 1 \1 foo", 1, 1);
        check.errors(".macro m\nnop 1\nfoo\n.space 1001\n.end\nm\nm", 1, 6, 2, 6, 5, 6, 1, 7, 2, 7, 5, 7);
        check.errors(".macro m\nfoo\n.end\n.macro o\nm\nnop\nm\n.end\no", 2, 9, 2, 9);
    }

    /** A line with an error is none, and tells no name. */
    private static void errorOfALineIsNoStatement(Check check) {
        check.errors("a: nop 1\na: foo\na: .space 1001\na: .space x\na: .set r1, 1\na: .end\na: .macro m\n.end\na:\na:",
                1, 1, 2, 2, 5, 3, 4, 4, 1, 5, 1, 6, 1, 7, 3, 10);
        check.errors(".set a, x\n.set a\n.set a, .\n.space a\n.set a, 1\n.space a", 4, 1, 1, 2, 4, 3, 4, 4);
        check.errors("l:\nl: .set a, 1\n.set a, 1", 3, 2);
    }

    /** UNKNOWN: an operation that is none, and no macro told before. */
    private static void unknown(Check check) {
        check.errors("m\n.macro m\n.end\nm\nmm\n.m", 2, 1, 2, 5, 2, 6);
        check.errors("no\nnopp\nl\nlii\nad\nsu\nbb\nbzz\nl_w\nlw1", 2, 1, 2, 2, 2, 3, 2, 4, 2, 5, 2, 6, 2, 7, 2, 8, 2, 9, 2, 10);
        check.errors(".wor 1\n.words 1\n.spac\n.poo\n.pools\n.se\n.sets\n.mac\n.macros m\n.en\n.ends\n.nop\n.li",
                2, 1, 2, 2, 2, 3, 2, 4, 2, 5, 2, 6, 2, 7, 2, 8, 2, 9, 2, 10, 2, 11, 2, 12, 2, 13);
        check.errors(".macro a\n.end\n.macro b1\n.end\n.foo\n.a\n.b\na", 2, 5, 2, 6, 2, 7);
        check.errors("word 1\nspace 1\npool\nset a, 1\nmacro m\nend", 2, 1, 2, 2, 2, 3, 2, 4, 2, 5, 2, 6);
    }

    /** TWICE: a label, .set or .macro with a NAME that is there already. */
    private static void twice(Check check) {
        check.errors("a:\na:", 3, 2);
        check.errors("a:\n.set a, 1", 3, 2);
        check.errors(".set a, 1\na:", 3, 2);
        check.errors(".set a, 1\n.set a, 1", 3, 2);
        check.errors("a: .set a, 1", 3, 1);
        check.errors("b: .set a, 1\na:\nb:", 3, 2, 3, 3);
        check.right("a:\naa:\na_:\n.set a1, 1\n.macro a\n.end\n");
        // The first one stays.
        check.errors(".set a, 1001\n.set a, 1\n.space a", 3, 2, 5, 3);
    }

    /** NAME: a NAME of an expression of .set, .space that no .set before tells. (A . in .set and .space is 4.) */
    private static void nameOfSetAndSpace(Check check) {
        check.right(".set a, 1\n.set b, a\n.space a + b");
        check.errors(".set b, a\n.set a, 1", 4, 1);
        check.errors(".space a\n.set a, 1", 4, 1);
        check.errors(".set a, a", 4, 1);
        check.errors("a:\n.set b, a\n.space a", 4, 2, 4, 3);
        check.errors(".set a, .\n.space .\n.set a, 1 + .\n.space . - .", 4, 1, 4, 2, 4, 3, 4, 4);
        check.errors(".set a, x - x\n.space 0 + x - x", 4, 1, 4, 2);
        check.errors(".set k, 1\n.space k + x\n.space x + k\n.set l, k + . + k", 4, 2, 4, 3, 4, 4);
        // Elsewhere a name may be told behind, and . is the statement's place.
        check.words("nop\n.word a, .\n.set a, 7", 0, 7, 1);
    }

    /** RANGE: .space not 0 .. 1000. */
    private static void rangeOfSpace(Check check) {
        check.statements(".space 0\n.space 1\n.space 999\n.space 1000", 1, 0, 0, 0, 2, 0, 1, 0, 3, 1, 999, 0, 4, 1000, 1000, 0);
        check.errors(".space -1\n.space 1001\n.space 0x7fffffff\n.space 0x80000000\n.space 65536\n.space 0 - 1",
                5, 1, 5, 2, 5, 3, 5, 4, 5, 5, 5, 6);
        check.right(".set a, 1001\n.space a - 1\n.set b, -1\n.space b + 1");
        check.errors(".set a, 1001\n.space a\n.set b, -1\n.space b", 5, 2, 5, 4);
    }

    /** In a line 1 is looked for first, but 2 ahead of operands; then 3, 4, 5, 6. */
    private static void orderInALine(Check check) {
        check.errors("a:\na: foo 1,,\1", 1, 2);
        check.errors("a:\na: foo 1,,", 2, 2);
        check.errors("a:\nr1: foo", 1, 2);
        check.errors("a:\na: .space x )", 1, 2);
        check.errors("a:\na: .space x", 3, 2);
        check.errors("a:\na: .space 1001", 3, 2);
        check.errors("a:\n.set a, x", 3, 2);
        check.errors(".space 1001 + x\n.space 1001 + .", 4, 1, 4, 2);
        check.errors("a:\n" + "nop\n".repeat(399) + "a:\nfoo\nnop 1\n.space x\n.space 1001\nnop", 3, 401, 2, 402, 1, 403, 4, 404, 5, 405,
                6, 406);
        check.errors("a:\n" + "nop\n".repeat(399) + "b: .set a, 1\nb: .set c, x\nb: .set c, 1\n.set c, 1", 3, 401, 4, 402, 6, 403);
    }

    /** TURN TWO (without errors in turn one). */
    private static void turnTwoOnlyWithoutErrors(Check check) {
        check.errors("b x\n.word 65536", 4, 1, 5, 2);
        check.errors("b x\n.word 65536\nfoo", 2, 3);
        check.errors("b x\n.word 65536\n.macro m", 1, 3);
        check.errors(SPACES + ".space 536\nnop 1", 1, 67);
    }

    /** NAME: an expression's first NAME that is neither label nor set. */
    private static void namesOfTurnTwo(Check check) {
        check.errors("b x", 4, 1);
        check.errors("b x + y - z", 4, 1);
        check.errors(".word x + y, z\nli r1, x\nbz r1, x\nlw r1, = x", 4, 1, 4, 1, 4, 2, 4, 3, 4, 4);
        check.errors("b r1\n.macro m\n.end\nb m\nb nop", 4, 1, 4, 4, 4, 5);
        check.right("b x\n.word y\nx:\n.set y, 1");
        // Of an expression one error is told: a value that is not known is not too large.
        check.errors(".word x + 65536\nli r1, 65536 - x\nb 65536 + x\nlw r1, = x + 65536", 4, 1, 4, 2, 4, 3, 4, 4);
    }

    /** Statement by statement, operand by operand. */
    private static void operandByOperand(Check check) {
        check.errors(".word 65536, x, 1, -32769, y, 0, z, 65536\n.word x", 5, 1, 4, 1, 5, 1, 4, 1, 4, 1, 5, 1, 4, 2);
        check.errors("lw r1, = 65536\nli r1, x\n.pool\n.word 65536\nb x\n", 5, 1, 4, 2, 5, 4, 4, 5);
        check.errors("lw r1, = 65536\n.space 64", 5, 1);
        check.errors("lw r1, = x\n.space 64", 4, 1);
    }

    /** The program's end above 65535 words (once, told by line 0, ahead of the others: nothing else is told then). */
    private static void programsEnd(Check check) {
        check.same("65534 words", check.assembled(SPACES + ".space 534").count(1), 65534);
        check.same("65535 words", check.assembled(SPACES + ".space 535").count(1), 65535);
        check.errors(SPACES + ".space 536", 5, 0);
        check.errors(SPACES + ".space 1000\n.space 1000", 5, 0);
        check.errors(SPACES + ".space 535\nb x\n.word 65536", 5, 0);
        check.errors(SPACES + ".space 534\nb . + x - x", 4, 67);
        // Literals and long ones have their words, too.
        check.right(SPACES + ".space 533\nlw r1, = 1");
        check.errors(SPACES + ".space 534\nlw r1, = 1", 5, 0);
        check.errors(SPACES + ".space 534\nlw r1, = 1\n.pool", 5, 0);
        check.right(SPACES + ".space 534\nli r1, 255");
        check.right(SPACES + ".space 533\nli r1, 256");
        check.errors(SPACES + ".space 534\nli r1, 256", 5, 0);
        // A label may stand behind the last word.
        AssembleLines x = check.assembled(SPACES + ".space 535\ne:");
        check.same("a label of the end", x.name(0, 0), 65535);
        check.right(SPACES + ".space 534\n.word e\ne:");
    }

    /** (Names that are none count as 0 there.) */
    private static void unknownNamesCountAsNothing(Check check) {
        check.errors(SPACES + ".space 534\nli r1, x", 4, 67);
        check.errors(SPACES + ".space 534\nli r1, x + 255", 4, 67);
        check.errors(SPACES + ".space 534\nli r1, x + 256", 5, 0);
        check.errors(SPACES + ".space 534\nb x", 5, 0);
        check.errors(SPACES + ".space 534\nb x + .", 4, 67);
        check.errors(SPACES + ".space 534\nb x + . + 33", 5, 0);
        check.errors("b x\n" + SPACES + ".space 534", 4, 1);
        check.errors("b x + 32\n" + SPACES + ".space 534", 4, 1);
        check.errors("b x + 33\n" + SPACES + ".space 534", 5, 0);
        check.errors("bz r1, y - x\n" + SPACES + ".space 534", 4, 1);
    }
}
