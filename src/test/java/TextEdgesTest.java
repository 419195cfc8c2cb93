/** The edges of the terms, sentence by sentence and on both sides: text, lines, names, operands, expressions. */
final class TextEdgesTest {
    private static final String TEN = "a23456789_";
    private static final String ELEVEN = "a23456789_1";

    public static void main(String[] args) {
        Check check = new Check();
        textOf4096(check);
        linesUpToByteTen(check);
        passedOverFromSemicolon(check);
        bytesOfALine(check);
        nameOfTenBytes(check);
        nameBeginsWithLetter(check);
        labelRightAheadOfColon(check);
        blanksAnywhereElse(check);
        blankBehindOperation(check);
        lineWithoutAnything(check);
        howManyOperands(check);
        registers(check);
        wordsUpToEight(check);
        numbersOfDigits(check);
        hexadecimalNumbers(check);
        signs(check);
        thirtyTwoBits(check);
        check.finish();
    }

    /** THE TEXT has at most 4096 bytes. */
    private static void textOf4096(Check check) {
        for (int length = 4079; length <= 4096; length++) {
            String text = " ".repeat(length - 8) + ".word 12";
            AssembleLines x = Check.fed(text);
            check.same("bytes of a text", x.count(0), length);
            if (length > 4080) {
                check.throwing("feed behind " + length, IllegalStateException.class, () -> x.feed(0, 0, 0, 0));
                check.same("bytes behind a refused feed", x.count(0), length);
            } else {
                check.same("feed behind " + length, x.feed(0x20202020, 0x20202020, 0x20202020, 0x20202020), length + 16);
            }
            check.same("words of a text of " + length, x.assemble(), 1);
            check.same("its last byte counts", x.word(0), 12);
        }
    }

    /** LINES are numbered from 1, each up to a byte 10 or the end of the text. */
    private static void linesUpToByteTen(Check check) {
        check.statements("nop", 1, 0, 1, 0);
        check.statements("nop\n", 1, 0, 1, 0);
        check.statements("\nnop\n\n\nnop", 2, 0, 1, 0, 5, 1, 1, 0);
        check.errors("foo\n\n", 2, 1);
        check.errors("\n".repeat(4093) + "foo", 2, 4094);
        check.right("\n".repeat(4096));
        check.errors("nop\13nop", 1, 1);
        check.errors("nop\rnop", 1, 1);
        check.errors("nop nop", 1, 1);
        // A right .macro ends with its line, too.
        check.errors(".macro m\n", 1, 1);
        check.right(".macro m\n.end\n");
    }

    /** From a ; on a line is passed over. */
    private static void passedOverFromSemicolon(Check check) {
        check.words(".word 1;,2;3\n;.word 4\n.word 5 ;\n.word 6", 1, 5, 6);
        check.errors("a;: nop", 2, 1);
        check.errors(".word 1,;2", 1, 1);
        check.right("a:;: nop\nb: ; nop");
        check.right(".macro m;n\n.end;x\nm;,,,,,\n");
        check.errors(".macro;m\n.end", 1, 1);
        for (int letter = 0; letter <= 255; letter++) {
            if (letter != '\n') {
                check.right("nop;" + (char) letter + "\n;" + (char) letter);
            }
        }
    }

    /** FORM: a byte that is not 32 .. 126 ahead of a ; .. */
    private static void bytesOfALine(Check check) {
        String macro = ".macro m\n.end\n";
        for (int letter = 0; letter <= 255; letter++) {
            boolean isPlain = letter >= 32 && letter <= 126;
            String line = "m " + (char) letter + "\nfoo";
            if (letter == '\n') {
                check.errors(macro + line, 2, 5);
            } else if (isPlain) {
                check.errors(macro + line, 2, 4);
            } else {
                check.errors(macro + line, 1, 3, 2, 4);
                // Of such a line nothing else is looked at: it is no .macro, and its operation is not unknown.
                check.errors("foo " + (char) letter, 1, 1);
                check.errors(".macro n" + (char) letter + "\nfoo\n.end", 1, 1, 2, 2, 1, 3);
                check.right(".macro n;" + (char) letter + "\nfoo\n.end");
            }
        }
    }

    /** NAMES: .. up to 10 bytes in all. */
    private static void nameOfTenBytes(Check check) {
        check.words(TEN + ": nop\nb " + TEN, 0, 0x503e);
        check.errors(ELEVEN + ": nop", 1, 1);
        check.errors("b " + ELEVEN, 1, 1);
        check.words(".set " + TEN + ", 5\n.word 1 - " + TEN, 0xfffc);
        check.errors(".set " + ELEVEN + ", 5", 1, 1);
        check.errors(".set a, " + ELEVEN, 1, 1);
        check.errors(".set a, " + TEN, 4, 1);
        check.words(".macro " + TEN + "\nnop\n.end\n" + TEN, 0);
        check.errors(".macro " + ELEVEN + "\nnop\n.end\n", 1, 1);
        check.errors(TEN, 2, 1);
        check.errors(ELEVEN, 1, 1);
        // An operation with a . is no name.
        check.errors(".abcdefghi\n.abcdefghij\n.abcdefghijklmnopqrstuvwxyz", 2, 1, 2, 2, 2, 3);
        // All ten bytes count.
        check.words("a23456789_:\nnop\na234567890:\n.word a23456789_, a234567890", 0, 0, 1);
        check.errors(TEN + ":\n" + TEN + ":", 3, 2);
        check.errors("_".repeat(10) + ":\nb " + "_".repeat(9), 4, 2);
    }

    /** NAMES: a small letter or _, then small letters, digits, _. */
    private static void nameBeginsWithLetter(Check check) {
        for (char letter = '!'; letter <= '~'; letter++) {
            boolean isFirst = letter >= 'a' && letter <= 'z' || letter == '_';
            boolean isNext = isFirst || letter >= '0' && letter <= '9';
            if (letter == ';') {
                continue;
            }
            if (isFirst) {
                check.right(letter + ":");
                check.errors(letter + "xy", 2, 1);
            } else {
                check.errors(letter + ":", 1, 1);
            }
            if (isNext) {
                check.right("x" + letter + ":");
                check.errors("xy" + letter, 2, 1);
            } else if (letter != ':') {
                check.errors("x" + letter + ":", 1, 1);
                check.errors("xy" + letter, 1, 1);
            }
        }
    }

    /** Perhaps NAME and a : right behind it. */
    private static void labelRightAheadOfColon(Check check) {
        check.right("a:nop");
        check.right("  a:  nop");
        check.errors("a :nop", 2, 1);
        check.errors("nop :", 1, 1);
        check.errors("a:b:nop", 1, 1);
        check.errors("a:: nop", 1, 1);
        check.errors(":nop", 1, 1);
        check.errors(" : nop", 1, 1);
        check.right("a:");
    }

    /** Blanks may stand anywhere but within NAMES, numbers and operations. */
    private static void blanksAnywhereElse(Check check) {
        check.words("li r1,-1+2\nbz r1,.\nlw r1,=1\n.word 1,2", 0x1201, 0x721f, 0x9202, 1, 2, 1);
        check.words("   li   r1  ,  -  1  +  2  \n  bz  r1 ,  .  \n  lw  r1  ,  =  1  \n  .word  1  ,  2  ",
                0x1201, 0x721f, 0x9202, 1, 2, 1);
        check.right("  .set  a  ,  1  \n  .macro  m  \n  .end  \n  m  \n  .pool  \n  nop  \n  .space  1  ");
        check.errors("n op\n. word 1\n.wo rd 1", 2, 1, 1, 2, 2, 3);
        check.errors("li r 1, 1\nli r1, 1 0\nli r1, 0 x1\nli r1, 0x 1\nli r1, 0x1 0\nb a b",
                1, 1, 1, 2, 1, 3, 1, 4, 1, 5, 1, 6);
    }

    /** A blank or the end stands behind an operation. */
    private static void blankBehindOperation(Check check) {
        String[] operations = {"nop", "li", "add", "sub", "b", "bz", "lw", ".word", ".space", ".pool", ".set", ".macro", ".end",
            "foo", ".foo"};
        for (String operation : operations) {
            for (String behind : new String[] {",", "-", "+", "=", ".", "&", "(", "\"", "~", "A"}) {
                check.errors(operation + behind, 1, 1);
                check.errors(operation + behind + " 1", 1, 1);
            }
        }
        check.errors(".macro m\n.end\nm,\nm-1\nm=\nm\"", 1, 3, 1, 4, 1, 5, 1, 6);
        check.right(".macro m\n.end\nm\nm \nm;\nm ,");
        check.right("nop\nnop \nnop;\nnop");
        check.errors(".foo{\n.foo`\n.foo{ 1\n.{\n.`", 1, 1, 1, 2, 1, 3, 1, 4, 1, 5);
        check.errors(".word1\n.space1\n.pool1\n.end1\n.word_ 1", 1, 1, 1, 2, 1, 3, 1, 4, 1, 5);
        // One that is none ends no body, and begins none.
        check.right(".macro m\n.end,\n.end1\n.ends\n.en\n.end.\n.end");
        check.errors(".macro,m\nfoo", 1, 1, 2, 2);
    }

    /** A line without anything is passed over. */
    private static void lineWithoutAnything(Check check) {
        check.statements("");
        check.statements("\n");
        check.statements(" \n  \n;\n ;\n; nop");
        check.statements("a:\n\nb:", 1, 0, 0, 0, 3, 0, 0, 0);
        check.statements(".macro m\n\n ;\n &0\n.end\nm\nm ;");
    }

    /** Each operation has its operands, with commas between, neither less nor more. */
    private static void howManyOperands(Check check) {
        String[] right = {"nop", "li r1, 1", "add r1, r2", "sub r1, r2", "b 1", "bz r1, 1", "lw r1, = 1", ".word 1", ".space 1",
            ".pool", ".set a, 1"};
        for (String line : right) {
            check.right(line);
            check.errors(line + " 1", 1, 1);
            check.errors(line + " ,", 1, 1);
            check.errors(line + " r1", 1, 1);
            if (!line.startsWith(".word")) {
                check.errors(line + ", 1", 1, 1);
            }
            if (line.indexOf(' ') > 0) {
                check.errors(line.substring(0, line.lastIndexOf(' ')), 1, 1);
                check.errors(line.substring(0, line.indexOf(' ')), 1, 1);
                check.errors(line.substring(0, line.indexOf(' ')) + " ,", 1, 1);
            }
            if (line.indexOf(',') > 0) {
                check.errors(line.substring(0, line.indexOf(',')), 1, 1);
                check.errors(line.replace(",", ""), 1, 1);
                check.errors(line.replace(",", ",,"), 1, 1);
            }
        }
        check.errors("lw r1, 1\nlw r1 = 1\nlw r1, = = 1\nli r1, = 1\n.word = 1", 1, 1, 1, 2, 1, 3, 1, 4, 1, 5);
        check.errors(".macro\n.end\n.macro m 1\n.end\n.macro m,\n.end\n.macro 1\n.end\nfoo", 1, 1, 1, 3, 1, 5, 1, 7, 2, 9);
    }

    /** A REGISTER, r0 .. r7. */
    private static void registers(Check check) {
        for (int r = 0; r <= 7; r++) {
            check.words("li r" + r + ", 1\nadd r" + r + ", r" + (7 - r) + "\nsub r" + (7 - r) + ", r" + r + "\nbz r" + r
                    + ", .\nlw r" + r + ", =1", 0x1001 | r << 9, 0x3000 | r << 9 | 7 - r << 6, 0x4000 | 7 - r << 9 | r << 6,
                    0x701f | r << 9, 0x9000 | r << 9, 1);
            check.words("li r" + r + ", 256\nbz r" + r + ", 1000", 0x2000 | r << 9, 256, 0x8000 | r << 9, 1000);
            // As a label or set name it is FORM, and the line is no .macro; a macro may have such a name.
            check.errors("r" + r + ":\n.set r" + r + ", 1\nr" + r + ": .macro m\nfoo", 1, 1, 1, 2, 1, 3, 2, 4);
            check.words(".macro r" + r + "\nnop\n.end\nr" + r, 0);
        }
        for (String none : new String[] {"r8", "r9", "r", "r00", "r10", "r01", "q7", "s0", "7", "r_", "ra", "rr1", "R1", "r-1", "_r1"}) {
            check.errors("li " + none + ", 1\nadd " + none + ", r1\nadd r1, " + none + "\nsub " + none + ", r1\nsub r1, " + none
                    + "\nbz " + none + ", .\nlw " + none + ", =1", 1, 1, 1, 2, 1, 3, 1, 4, 1, 5, 1, 6, 1, 7);
        }
        check.right("r8: .set r9, 1\nr: .set r00, 1\nr10: .set q7, 1\ns0:");
    }

    /** .word e {, e} (up to 8). */
    private static void wordsUpToEight(Check check) {
        check.errors(".word", 1, 1);
        for (int n = 1; n <= 10; n++) {
            String line = ".word 1" + ",1".repeat(n - 1);
            if (n <= 8) {
                check.statements(line + "\nnop", 1, 0, n, 0, 2, n, 1, 0);
            } else {
                check.errors(line, 1, 1);
            }
            check.errors(line + ",", 1, 1);
        }
    }

    /** Digits (up to 9). */
    private static void numbersOfDigits(Check check) {
        check.words(".word 0, 9, 000000007, 999999999 - 999999990", 0, 9, 7, 9);
        check.errors(".word 0000000007\n.word 9999999999\n.word 1000000000 - 1000000000", 1, 1, 1, 2, 1, 3);
        check.same("the highest number", check.assembled(".set a, 999999999").name(0, 1), 999999999);
        check.same("the lowest number", check.assembled(".set a, -999999999").name(0, 1), -999999999);
        check.errors(".word 1a\n.word 1_\n.word 1x1\n.word 00x1", 1, 1, 1, 2, 1, 3, 1, 4);
    }

    /** 0x and one to eight hexadecimal digits (0 .. 9, a .. f). */
    private static void hexadecimalNumbers(Check check) {
        check.words(".word 0x0, 0x9, 0xa, 0xf, 0x00000001, 0xffffffff", 0, 9, 10, 15, 1, 0xffff);
        check.errors(".word 0x\n.word 0x000000001\n.word 0xg\n.word 0x`\n.word 0x/\n.word 0x:\n.word 0xA\n.word 0X1",
                1, 1, 1, 2, 1, 3, 1, 4, 1, 5, 1, 6, 1, 7, 1, 8);
        check.same("0x01234567", check.assembled(".set a, 0x01234567").name(0, 1), 0x01234567);
        check.same("0x89abcdef", check.assembled(".set a, 0x89abcdef").name(0, 1), 0x89abcdef);
    }

    /** Perhaps + or -, then terms with + or - between. */
    private static void signs(Check check) {
        check.words(".word +1, -1, 1+1, 1-1, -1-1, +1+1", 1, 0xffff, 2, 0, 0xfffe, 2);
        check.errors(".word ++1\n.word --1\n.word 1+-1\n.word 1--1\n.word 1+\n.word -\n.word 1 1\n.word . .\n.word a a",
                1, 1, 1, 2, 1, 3, 1, 4, 1, 5, 1, 6, 1, 7, 1, 8, 1, 9);
        // As many terms as a line has room for.
        check.words(".word 1" + "+1".repeat(2000), 2001);
        check.errors(".word 1" + "+1".repeat(2000) + "+", 1, 1);
        check.words("a: nop\nb: .word b" + "+b-a".repeat(1000), 0, 1001);
    }

    /** They have 32 bits. */
    private static void thirtyTwoBits(Check check) {
        AssembleLines x = check.assembled(".set a, 0x7fffffff\n.set b, a + 1\n.set c, b - 1\n.set d, 0xffffffff + 1\n.set e, -b\n"
                + ".set f, a + a\n.set g, b + b\n.set h, -a - 2\n.set i, 999999999 + 999999999 + 999999999\n");
        int[] due = {Integer.MAX_VALUE, Integer.MIN_VALUE, Integer.MAX_VALUE, 0, Integer.MIN_VALUE, -2, 0, Integer.MAX_VALUE,
            999999999 * 3};
        for (int k = 0; k < due.length; k++) {
            check.same("a value of 32 bits", x.name(k, 1), due[k]);
        }
        check.words(".space 0x80000000 + 0x80000001\n.word 0x7fffffff + 0x7fffffff + 3", 0, 1);
        check.words("nop\nli r1, 0x7fffffff + . - 0x80000000", 0, 0x1200);
        check.words("nop\nb 0x80000000 + 0x80000000", 0, 0x503e);
        // What a branch counts from its place has 32 bits, and does not fit by that.
        check.errors("b 0x80000000\nbz r1, 0x80000000\nb 0x7fffffff\nbz r1, 0x7fffffff", 5, 1, 5, 2, 5, 3, 5, 4);
    }
}
