/** The edges of macros and calls, sentence by sentence and on both sides. */
final class MacroEdgesTest {
    public static void main(String[] args) {
        Check check = new Check();
        twelveMacros(check);
        fourOperands(check);
        blanksRoundOperands(check);
        ampersands(check);
        numbersOfCalls(check);
        labelAheadOfCall(check);
        linesOfTheOutermostCall(check);
        sixDeep(check);
        hundredCalls(check);
        refusedCallsAreNone(check);
        linesOf100Bytes(check);
        bodiesEndWithEnd(check);
        macroWithoutEnd(check);
        linesBehindWrongMacros(check);
        macroNames(check);
        check.finish();
    }

    private static String macro(String name, String body) {
        return ".macro " + name + "\n" + body + "\n.end\n";
    }

    /** Macros from m10 on, of two lines each. */
    private static String macros(int n) {
        StringBuilder text = new StringBuilder();
        for (int i = 0; i < n; i++) {
            text.append(".macro m").append(10 + i).append("\n.end\n");
        }
        return text.toString();
    }

    /** MACROS: .. up to 12; DEEP: the 13th macro. */
    private static void twelveMacros(Check check) {
        for (int n = 0; n <= 12; n++) {
            check.same("macros", check.assembled(macros(n)).count(5), n);
        }
        check.right(macros(12) + "m10\nm21");
        check.errors(macros(13), 6, 25);
        check.errors(macros(14) + "m21\nm22", 6, 25, 6, 27, 2, 30);
        // Wrong ones are not counted.
        check.errors(macros(11) + ".macro m10\n.end\n.macro\n.end\n.macro li\n.end\nx: .macro y\n.end\n.macro n\n.end\n.macro o\n.end",
                3, 23, 1, 25, 3, 27, 1, 29, 6, 33);
        // 1 to 3 are told ahead of it.
        check.errors(macros(12) + ".macro m10\n.end\n.macro 1\n.end\n.macro nop\n.end", 3, 25, 1, 27, 3, 29);
        check.errors(macros(12) + ".macro n\nfoo\n", 6, 25);
    }

    /** A name of a macro with up to 4 operands is a CALL. */
    private static void fourOperands(Check check) {
        String text = macro("m", ".word 1&0, 1&1, 1&2, 1&3");
        check.words(text + "m", 1, 1, 1, 1);
        check.words(text + "m 2", 12, 1, 1, 1);
        check.words(text + "m 2,3", 12, 13, 1, 1);
        check.words(text + "m 2,3,4", 12, 13, 14, 1);
        check.words(text + "m 2,3,4,5", 12, 13, 14, 15);
        check.errors(text + "m 2,3,4,5,6", 1, 4);
        check.errors(text + "m 2,3,4,5,", 1, 4);
        check.words(text + "m ,,,", 1, 1, 1, 1);
        check.errors(text + "m ,,,,", 1, 4);
        check.words(text + "m ,,,5", 1, 1, 1, 15);
        check.words(text + "m 2,3,4,5;,6", 12, 13, 14, 15);
        // The operands of the call before are forgotten.
        check.words(text + "m 2,3,4,5\nm 6\nm", 12, 13, 14, 15, 16, 1, 1, 1, 1, 1, 1, 1);
    }

    /** Anything without commas, blanks at both ends not counted. */
    private static void blanksRoundOperands(Check check) {
        check.words(macro("m", ".word 1&0") + "m    2   \nm 3;\nm   ,   4\nm  +  5  ,", 12, 13, 1, 6);
        check.words(macro("m", "&0 &1") + "m  .word  1  +  2  \nm  nop  ,  \n", 3, 0);
        check.errors(macro("m", ".word 1&0") + "m 2 3", 1, 4);
        check.words(macro("m", ".word 1&0&1&2&3") + "m 2 , 3 , 4 , 5 ", 12345);
        String all = "!\"#$%&'()*+-./0123456789:<=>?@ABCDEFGHIJKLMNOPQRSTUVWXYZ[\\]^_`abcdefghijklmnopqrstuvwxyz{|}~";
        check.right(macro("m", "nop ; &0") + "m " + all.substring(0, 45) + "\nm " + all.substring(45));
    }

    /** & and a digit 0 .. 3 becomes that operand (nothing, if there is none), .. (another & stays as it is). */
    private static void ampersands(Check check) {
        check.words(macro("m", "&0&1&2&3") + "m .word 7\nm ,,, .word 8\nm .w, ord  9", 7, 8, 9);
        check.words(macro("m", "&0rd 1&3") + "m .wo, 5, 6, 7", 17);
        check.words(macro("m", "&0rd 1&3") + "m .wo, 5, 6", 1);
        for (String stays : new String[] {"&4", "&9", "&", "& 0", "&&", "&m", "&o", "&N", "&a0", "&-1", "&/", "&:"}) {
            check.errors(macro("m", ".word 1+" + stays) + "m 1,2,3,4", 1, 4);
            check.right(macro("m", "nop ;" + stays) + "m 1,2,3,4");
        }
        // Nothing is left of the line that was put together before.
        check.words(macro("m", ".word 0&0") + "m x5\nm\nm 7\nm", 5, 0, 7, 0);
        // It stays at the end of a line, where the next line's first byte is not its digit.
        check.errors(macro("m", ".word 1&\n0") + "m 1", 1, 5, 1, 5);
        // One & that stays is followed by one that does not.
        check.words(macro("i", ".word 1") + macro("m", "i &&0") + "m 5", 1);
        check.words(macro("i", ".word 1&0") + macro("m", "i &0") + "m 5", 15);
        // An operand's own & is not looked at again, but in a call of a call it is none of that body.
        check.errors(macro("i", ".word 1&0") + macro("m", "i &0") + "m &0", 1, 7);
        check.words(macro("m", ".word &0&0&0&0&0") + "m 1", 11111);
    }

    /** &n the number of the call (of all calls, from 1 on), in digits. */
    private static void numbersOfCalls(Check check) {
        AssembleLines x = check.assembled(macro("m", ".word &n, 1&n") + "m\n".repeat(100));
        for (int i = 0; i < 100; i++) {
            check.same("the number of call " + i, x.word(2 * i), i + 1);
            int tens = i + 1 < 10 ? 10 : i + 1 < 100 ? 100 : 1000;
            check.same("its digits", x.word(2 * i + 1), tens + i + 1);
        }
        check.words(macro("m", ".word &n0&n") + "m\nm", 101, 202);
        // A call in a call has a number of its own, and the outer one keeps its own.
        check.words(macro("i", ".word &n") + macro("o", ".word &n\ni\n.word &n") + "i\no\ni", 1, 2, 3, 2, 4);
        // Each text counts from 1 on.
        AssembleLines y = check.assembled(macro("m", ".word &n") + "m\nm");
        Check.feed(y, macro("m", ".word &n") + "m");
        check.same("words of the next text", y.assemble(), 1);
        check.same("its first number", y.word(0), 1);
    }

    /** A label ahead of a call is one of its place. */
    private static void labelAheadOfCall(Check check) {
        check.statements("nop\n" + macro("m", "nop\nli r1, 300") + "a: m\nb: m",
                1, 0, 1, 0, 6, 1, 0, 0, 6, 1, 1, 0, 6, 2, 2, 1, 7, 4, 0, 0, 7, 4, 1, 0, 7, 5, 2, 1);
        check.statements(macro("m", "") + "a: m", 4, 0, 0, 0);
        check.statements(macro("m", "") + "m");
        check.errors(macro("m", "a: nop") + "a: m", 3, 4);
        check.words(macro("m", "b a") + "a: m", 0x503f);
    }

    /** What comes of it is a line (told by the line of the outermost call). */
    private static void linesOfTheOutermostCall(Check check) {
        String text = macro("i", "nop\n\nfoo") + macro("o", "\ni\nbar") + "\n\n";
        check.errors(text + "o\ni", 2, 13, 2, 13, 2, 14);
        check.errors(text.replace("foo", "b x").replace("bar", "b y") + "o\ni", 4, 13, 4, 13, 4, 14);
        check.statements(text.replace("foo", "nop").replace("bar", "nop") + "o\ni\nnop",
                13, 0, 1, 0, 13, 1, 1, 0, 13, 2, 1, 0, 14, 3, 1, 0, 14, 4, 1, 0, 15, 5, 1, 0);
    }

    /** At most 6 calls deep; DEEP: a call in six others. */
    private static void sixDeep(Check check) {
        StringBuilder chain = new StringBuilder(macro("m1", ".word &n"));
        for (int i = 2; i <= 7; i++) {
            chain.append(macro("m" + i, "m" + (i - 1)));
        }
        for (int i = 1; i <= 6; i++) {
            check.words(chain + "m" + i, i);
            check.same("calls", check.assembled(chain + "m" + i).count(6), i);
        }
        check.errors(chain + "m7", 6, 22);
        // The one that is too deep is refused alone: those round it go on, and the next one is not too deep.
        check.errors(macro("m", "m\n.space -1") + "m", 6, 5, 5, 5, 5, 5, 5, 5, 5, 5, 5, 5, 5, 5);
        check.words(chain + "m6\nm6\nm6", 6, 12, 18);
        // 1 to 3 are told ahead of it.
        String deepest = chain.toString().replace(".word &n", "m1 ,,,,\na: m1\nm1 1\nm0\n\1") + "a:\n";
        check.errors(deepest + "m6", 1, 27, 3, 27, 6, 27, 2, 27, 1, 27);
    }

    /** At most 100 calls in all; DEEP: the 101st call. */
    private static void hundredCalls(Check check) {
        String text = macro("m", "nop");
        AssembleLines x = check.assembled(text + "m\n".repeat(100));
        check.same("calls", x.count(6), 100);
        check.same("words", x.count(1), 100);
        check.errors(text + "m\n".repeat(101), 6, 104);
        check.errors(text + "m\n".repeat(102) + "nop 1", 6, 104, 6, 105, 1, 106);
        // Calls within calls count, too.
        String two = macro("i", "") + macro("o", "i");
        check.right(two + "o\n".repeat(50));
        check.errors(two + "o\n".repeat(50) + "i", 6, 57);
        check.errors(two + "o\n".repeat(49) + "i\no\ni", 6, 57, 6, 58);
        // A refused call's label is not told.
        check.errors(text + "m\n".repeat(100) + "a: m\na: nop", 6, 104);
        // 1 to 3 are told ahead of it.
        check.errors(text + "a:\n" + "m\n".repeat(100) + "m ,,,,\na: m\nfoo\nm", 1, 105, 3, 106, 2, 107, 6, 108);
    }

    /** Refused ones are none: the call behind them has the number that they would have had. */
    private static void refusedCallsAreNone(Check check) {
        // The first two calls tell RANGE, so that their numbers can be seen among errors.
        String text = macro("m", ".space &n-3") + "a:\n";
        check.errors(text + "m\nm\nm", 5, 5, 5, 6);
        check.errors(text + "m 1,2,3,4,5\nm\nm\nm", 1, 5, 5, 6, 5, 7);
        check.errors(text + "a: m\nm\nm\nm", 3, 5, 5, 6, 5, 7);
        check.errors(text + "r1: m\nm\nm\nm", 1, 5, 5, 6, 5, 7);
        check.errors(text + "m \1\nm\nm\nm", 1, 5, 5, 6, 5, 7);
        check.errors(text + "n\nm\nm\nm", 2, 5, 5, 6, 5, 7);
        // A call that is too deep, or in a line that is too long.
        check.errors(macro("d", "d") + macro("m", ".space &n-8") + "d\nm\nm", 6, 7, 5, 8);
        check.errors(macro("l", "l" + " ".repeat(100)) + macro("m", ".space &n-3") + "l\nm\nm", 6, 7, 5, 8);
        // A call whose label is the 401st statement.
        check.errors(macro("m", ".set b, &n-&n") + "nop\n".repeat(400) + "a: m\nm\nm", 6, 404, 3, 406);
        check.errors(macro("m", ".space &n-3") + "m\n".repeat(2) + "m\n".repeat(98) + "m", 5, 4, 5, 5, 6, 104);
    }

    /** DEEP: a line of a body that has more than 100 bytes. */
    private static void linesOf100Bytes(Check check) {
        for (int bytes = 98; bytes <= 103; bytes++) {
            int[] due = bytes > 100 ? new int[] {6, 4} : new int[0];
            check.errors(macro("m", "nop" + " ".repeat(bytes - 3)) + "m", due);
            check.errors(macro("m", " ".repeat(bytes - 3) + "nop") + "m", due);
            check.errors(macro("m", "nop;" + "x".repeat(bytes - 4)) + "m", due);
            check.errors(macro("m", "nop;&0") + "m " + "x".repeat(bytes - 4), due);
            check.errors(macro("m", "nop;&0" + "y".repeat(40)) + "m " + "x".repeat(bytes - 44), due);
            check.errors(macro("m", "nop;&0&0") + "m " + "x".repeat((bytes - 4) / 2), bytes > 101 ? due : new int[0]);
            check.errors(macro("m", "nop;&n" + "y".repeat(bytes - 5)) + "m", due);
            check.errors(macro("m", "a:" + " ".repeat(bytes - 2)) + "m", due);
            // & and a digit are not counted when nothing becomes of them.
            check.errors(macro("m", "nop;&0&1&2&3" + "y".repeat(bytes - 4)) + "m", due);
            // A line that the text has may be longer, and a body that is not called, too.
            check.right(macro("m", "nop" + " ".repeat(bytes)) + "nop" + " ".repeat(bytes));
            check.right(macro("m", "") + "m " + " ".repeat(bytes) + "x".repeat(bytes));
        }
        // The number of the call has one, two or three digits.
        check.right(macro("m", "nop;&n" + "y".repeat(93)) + "m\n".repeat(100));
        check.errors(macro("m", "nop;&n" + "y".repeat(94)) + "m\n".repeat(100), 6, 103);
        check.right(macro("m", "nop;&n" + "y".repeat(95)) + "m\n".repeat(9));
        check.errors(macro("m", "nop;&n" + "y".repeat(95)) + "m\n".repeat(10), 6, 13);
        // Such a line is no statement, tells no name and is no call.
        check.errors(macro("m", "a: nop" + " ".repeat(100)) + "m\na: nop\nm", 6, 4, 3, 6);
        check.errors(macro("m", ".set a, 1" + " ".repeat(100)) + "m\n.space a", 6, 4, 4, 5);
        check.errors(macro("i", "foo") + macro("m", "i" + " ".repeat(100)) + "m", 6, 7);
    }

    /** The operation .end (behind a label, too, whatever operands it has) ends it. */
    private static void bodiesEndWithEnd(Check check) {
        for (String end : new String[] {".end", " .end", "a: .end", "a:.end", "a: .end 1, 2", ".end ,,,,,", ".end )", ".end;", ".end ;x",
            ".end x: y", "_9: .end", ".end &0"}) {
            check.words(".macro m\nnop\n" + end + "\nm\n.word 1", 0, 1);
            // Its label is none.
            check.right(".macro m\n" + end + "\na:");
        }
        for (String none : new String[] {";.end", "nop .end", ".ends", ".en", ".end1", ".end,", "end", ".e nd", ". end", "a : .end",
            "a: b: .end", "&0: .end", "&.end", ".end\1", "a: nop ; .end"}) {
            check.right(".macro m\n" + none + "\n.end");
            check.errors(".macro m\n" + none, 1, 1);
        }
        check.errors(".macro m\n.end\n.end", 1, 3);
        check.errors(".end\na: .end\n.end 1", 1, 1, 1, 2, 1, 3);
        // What is put together is .end without .macro.
        check.errors(macro("m", "&0") + "m .end\nfoo", 1, 4, 2, 5);
        check.errors(macro("m", ".en&0") + "m d", 1, 4);
    }

    /** FORM: .. .macro without .end (its line, at last). */
    private static void macroWithoutEnd(Check check) {
        check.errors(".macro m", 1, 1);
        check.errors(".macro m\n", 1, 1);
        check.errors(".macro m\nfoo\nnop 1", 1, 1);
        check.errors("foo\n\n.macro m\nfoo\n\n", 2, 1, 1, 3);
        check.errors(".macro m\n.end\nfoo\n.macro n\n.macro o", 2, 3, 1, 4);
        check.right(".macro m\n.end");
        // At last it may be one too many.
        check.errors("foo\n".repeat(49) + ".macro m\nfoo", errorsUpTo(49, 1, 50));
        check.errors("foo\n".repeat(50) + ".macro m\nfoo", errorsUpTo(50));
        // A wrong one has told its error already.
        check.errors(".macro nop\nfoo", 3, 1);
        check.errors("a: .macro m\nfoo", 1, 1);
    }

    private static int[] errorsUpTo(int n, int... last) {
        int[] due = new int[2 * n + last.length];
        for (int i = 0; i < n; i++) {
            due[2 * i] = 2;
            due[2 * i + 1] = i + 1;
        }
        System.arraycopy(last, 0, due, 2 * n, last.length);
        return due;
    }

    /** The lines behind a wrong .macro are passed over up to .end, unless what stands ahead of it is a label that is none. */
    private static void linesBehindWrongMacros(Check check) {
        for (String wrong : new String[] {".macro", ".macro 1", ".macro m n", ".macro m,", "a: .macro m", "a: .macro", ".macro a2345678901",
            ".macro;m", "l: .macro m"}) {
            check.errors("l:\n" + wrong + "\nfoo\n.macro x\nnop 1\nb: .end 5\nfoo\nm\nx\na:\nb:", 1, 2, 2, 7, 2, 8, 2, 9);
        }
        check.errors("l:\n.macro sub\nfoo\n.end\nfoo", 3, 2, 2, 5);
        check.errors(".macro m\n.end\n.macro m\nfoo\n.end\nfoo\nm", 3, 3, 2, 6);
        for (String none : new String[] {"r0: .macro m", "r7: .macro m", "a2345678901: .macro m", ": .macro m", "1: .macro m",
            "A: .macro m", "a:b: .macro m", "\1 .macro m", ".macro m \177", ".macro1 m", "+ .macro m"}) {
            check.errors(none + "\nfoo\n.end", 1, 1, 2, 2, 1, 3);
        }
        check.errors("r8: .macro m\nfoo\n.end", 1, 1);
        check.errors("a : .macro m\nfoo\n.end", 2, 1, 2, 2, 1, 3);
        // A .macro that a call puts together.
        check.errors(macro("m", "nop\n.macro &0") + "m x\nfoo\n.end\nfoo\nx", 1, 5, 2, 8, 2, 9);
        check.errors(macro("m", ".macro x\nfoo\n.&0\nfoo") + "m end\nfoo\n", 1, 7, 2, 7, 2, 8);
    }

    /** TWICE: .. (labels and set names are of one kind, macros of another; a macro's NAME that is an operation's). */
    private static void macroNames(Check check) {
        for (String operation : new String[] {"nop", "li", "add", "sub", "b", "bz", "lw"}) {
            check.errors(macro(operation, "foo"), 3, 1);
            check.right(macro(operation + "x", "foo") + macro("x" + operation, "foo"));
            check.right(operation + ":\n");
            check.right(".set " + operation + ", 1");
        }
        for (String none : new String[] {"word", "space", "pool", "set", "macro", "end"}) {
            check.words(macro(none, "nop") + none, 0);
            check.errors(macro("." + none, "foo"), 1, 1);
        }
        check.words("m:\n.set n, 5\n" + macro("m", ".word m") + macro("n", ".word n") + "m\nn", 0, 5);
        check.errors(macro("m", "") + macro("m", ""), 3, 4);
        check.errors(macro("m", "") + macro("n", "") + macro("m", "") + "m\nn", 3, 7);
        // A body's own macro is there as soon as it is told.
        check.errors("m\n" + macro("m", "nop") + "m", 2, 1);
        check.errors(macro("o", "i") + "o\n" + macro("i", "nop") + "o", 2, 4);
    }
}
