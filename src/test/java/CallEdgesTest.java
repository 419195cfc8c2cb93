import java.util.function.IntConsumer;

/** The edges of the face's calls, promise by promise: arguments on both sides, and what a refused call leaves. */
final class CallEdgesTest {
    private static final int[] FAR = {Integer.MIN_VALUE, Integer.MIN_VALUE + 1, -65536, -256, -2, 256, 65536, Integer.MAX_VALUE - 1,
        Integer.MAX_VALUE};
    private static final String WHOLE = ".set k, 2\n.set q, -5\n.macro m\nnop\n.end\na: m\nli r1, 300\nlw r1, =k\nb a\ne:";

    public static void main(String[] args) {
        Check check = new Check();
        feedAtEachLength(check);
        feedOfAllBytes(check);
        endOfEachNumber(check);
        othersAreGone(check);
        endOfLessThanSixteen(check);
        firstExceptionTold(check);
        assembleEmptiesTheText(check);
        errorEdges(check);
        wordEdges(check);
        statementEdges(check);
        nameEdges(check);
        countEdges(check);
        refusedCallsChangeNothing(check);
        behindErrorsNothingIsThere(check);
        fiveHundredTwelveCalls(check);
        check.finish();
    }

    /** IllegalStateException, when there would be more than 4096. */
    private static void feedAtEachLength(Check check) {
        for (int last = 0; last <= 16; last++) {
            AssembleLines x = new AssembleLines();
            for (int i = 1; i <= 255; i++) {
                x.feed(0, 0, 0, 0);
            }
            check.same("feed up to 4096", x.feed(0, 0, 0, 0), 4096);
            check.same("end(" + last + ")", x.end(last), 4080 + last);
            if (last == 0) {
                check.same("feed up to 4096 again", x.feed(0, 0, 0, 0), 4096);
            } else {
                check.throwing("feed behind " + (4080 + last), IllegalStateException.class, () -> x.feed(0, 0, 0, 0));
                check.same("bytes", x.count(0), 4080 + last);
            }
        }
        AssembleLines full = new AssembleLines();
        for (int i = 0; i < 256; i++) {
            full.feed(0x20202020, 0x20202020, 0x20202020, 0x20202020);
        }
        check.throwing("feed of a full text", IllegalStateException.class, () -> full.feed(0x66202020, 0, 0, 0));
        check.same("nothing of it came", full.assemble(), 0);
        check.same("a text behind a full one", full.feed(0, 0, 0, 0), 16);
    }

    /** Sixteen bytes come behind the text, the highest of a first. */
    private static void feedOfAllBytes(Check check) {
        AssembleLines x = new AssembleLines();
        x.feed(0x2e776f72, 0x64203938, 0x37363534, 0x33323b80);
        check.throwing("98765432 is no word", IllegalArgumentException.class, x::assemble);
        check.same("but a number", x.error(0, 0), 5);
        x.feed(0x2e736574, 0x20612c39, 0x38373635, 0x3433323b);
        x.feed(0xffffffff, 0x80808080, 0x00000000, 0x7f7f7f0a);
        x.feed(0x2e736574, 0x20622c61, 0x2b312020, 0x20202020);
        check.same("no words", x.assemble(), 0);
        check.same("all its digits in their order", x.name(0, 1), 98765432);
        check.same("the one behind them", x.name(1, 1), 98765433);
    }

    /** Of the last sixteen bytes n (0 .. 16) count. */
    private static void endOfEachNumber(Check check) {
        for (int n = 0; n <= 16; n++) {
            AssembleLines x = new AssembleLines();
            x.feed(0x2e736574, 0x20612c31, 0x2020202d, 0x30303030);
            x.feed(0x2b313131, 0x31313131, 0x312b3131, 0x31313131);
            check.same("end(" + n + ")", x.end(n), 16 + n);
            String due = (".set a,1   -0000" + "+11111111+111111".substring(0, n)).substring(7).replace(" ", "");
            if (n == 1 || n == 10) {
                check.throwing("a + at the end", IllegalArgumentException.class, x::assemble);
            } else {
                x.assemble();
                check.same("what is left of it behind end(" + n + ")", x.name(0, 1), sum(due));
            }
        }
        for (int n : FAR) {
            refusedEnd(check, n);
        }
        refusedEnd(check, -1);
        refusedEnd(check, 17);
        AssembleLines x = new AssembleLines();
        x.feed(0, 0, 0, 0);
        check.same("end(16) leaves all", x.end(16), 16);
        check.same("end(16) again", x.end(16), 16);
        check.same("end(0)", x.end(0), 0);
        check.throwing("end(0) of nothing", IllegalStateException.class, () -> x.end(0));
    }

    /** .. the others are gone: each beginning of a text answers as if nothing had ever stood behind it. */
    private static void othersAreGone(Check check) {
        String[] texts = {
            ".word 0x12345678\nnop ;nop\nli r1, 0x10 + 0xa\nl2: b l2\n.set aa, -12\n.space aa+13",
            ".macro mm ;\n.word 0&0, &n\n.end ;\nmm x1\nmm 2, 3\nmm\nlw r1, = 0x0 + mm1\nmm1: .pool\n",
            "a:\n b:  .end\n.macro\n.end 5\nc: d: e\nadd r1, r2\nsub r3 , r44\n.word . - a, ..\n",
        };
        for (String text : texts) {
            String padded = text + " ".repeat(15);
            for (int length = 1; length <= text.length(); length++) {
                int fed = (length + 15) / 16 * 16;
                AssembleLines x = Check.fed(padded.substring(0, fed));
                x.end(length - (fed - 16));
                boolean isSame = outcome(x).equals(outcome(Check.fed(text.substring(0, length))));
                check.same("the first " + length + " bytes of " + Check.shown(text) + " answer alike", isSame ? 1 : 0, 1);
            }
        }
    }

    private static String outcome(AssembleLines x) {
        try {
            x.assemble();
        } catch (IllegalArgumentException e) {
            StringBuilder told = new StringBuilder();
            for (int i = 0; i < x.count(8); i++) {
                told.append(x.error(i, 0)).append(' ').append(x.error(i, 1)).append(' ');
            }
            return told.toString();
        }
        return answers(x);
    }

    private static int sum(String terms) {
        int sum = 0;
        for (String term : terms.replace("-", "+-").split("\\+")) {
            sum += term.isEmpty() ? 0 : Integer.parseInt(term);
        }
        return sum;
    }

    private static void refusedEnd(Check check, int n) {
        AssembleLines x = new AssembleLines();
        x.feed(0, 0, 0, 0);
        x.feed(0, 0, 0, 0);
        check.throwing("end(" + n + ")", IllegalArgumentException.class, () -> x.end(n));
        check.same("bytes behind it", x.count(0), 32);
    }

    /** IllegalStateException, when there are less than sixteen. */
    private static void endOfLessThanSixteen(Check check) {
        for (int bytes = 0; bytes <= 17; bytes++) {
            AssembleLines x = Check.fed("x".repeat(bytes));
            if (bytes < 16) {
                check.throwing("end(16) of " + bytes, IllegalStateException.class, () -> x.end(16));
                check.throwing("end(0) of " + bytes, IllegalStateException.class, () -> x.end(0));
                check.same("bytes behind it", x.count(0), bytes);
            } else {
                check.same("end(0) of " + bytes, x.end(0), bytes - 16);
            }
        }
        AssembleLines y = check.assembled("nop             ");
        check.throwing("end(0) behind assemble()", IllegalStateException.class, () -> y.end(0));
    }

    /** Of several exceptions the first one told is thrown. */
    private static void firstExceptionTold(Check check) {
        AssembleLines x = new AssembleLines();
        check.throwing("end(-1) of nothing", IllegalArgumentException.class, () -> x.end(-1));
        check.throwing("end(17) of nothing", IllegalArgumentException.class, () -> x.end(17));
        check.throwing("end(0) of nothing", IllegalStateException.class, () -> x.end(0));
        check.throwing("end(16) of nothing", IllegalStateException.class, () -> x.end(16));
        Check.feed(x, "x".repeat(15));
        check.throwing("end(17) of fifteen", IllegalArgumentException.class, () -> x.end(17));
        check.throwing("end(16) of fifteen", IllegalStateException.class, () -> x.end(16));
    }

    /** Assembles the text, which is empty then .. What was there before is gone. */
    private static void assembleEmptiesTheText(Check check) {
        AssembleLines x = check.assembled(WHOLE);
        check.same("bytes", x.count(0), 0);
        check.same("an empty text", x.assemble(), 0);
        for (int what = 0; what <= 9; what++) {
            check.same("count(" + what + ") of an empty text", x.count(what), what == 7 ? 1 : 0);
        }
        Check.feed(x, "foo");
        check.throwing("a text with errors", IllegalArgumentException.class, x::assemble);
        check.same("bytes behind errors", x.count(0), 0);
        check.same("an empty text behind errors", x.assemble(), 0);
        check.same("its errors", x.count(8), 0);
        check.same("its rounds", x.count(7), 1);
    }

    private static void refused(Check check, String call, int from, int to, IntConsumer run) {
        for (int k : FAR) {
            refusedOne(check, call, k, run);
        }
        refusedOne(check, call, from - 1, run);
        refusedOne(check, call, to + 1, run);
    }

    private static void refusedOne(Check check, String call, int k, IntConsumer run) {
        check.throwing(call + " with " + k, IndexOutOfBoundsException.class, () -> {
            run.accept(k);
            return 0;
        });
    }

    /** Of the k-th error .. its number (what 0), its line (1). */
    private static void errorEdges(Check check) {
        AssembleLines x = Check.fed("\nfoo\n\nnop 1");
        check.throwing("assemble()", IllegalArgumentException.class, x::assemble);
        check.same("the first one's number", x.error(0, 0), 2);
        check.same("the first one's line", x.error(0, 1), 2);
        check.same("the last one's number", x.error(1, 0), 1);
        check.same("the last one's line", x.error(1, 1), 4);
        refused(check, "error(k, 0)", 0, 1, k -> x.error(k, 0));
        refused(check, "error(k, 1)", 0, 1, k -> x.error(k, 1));
        refused(check, "error(0, what)", 0, 1, what -> x.error(0, what));
        refused(check, "error(1, what)", 0, 1, what -> x.error(1, what));
        AssembleLines y = check.assembled("nop");
        check.throwing("error(0, 0) of none", IndexOutOfBoundsException.class, () -> y.error(0, 0));
    }

    /** Word i. IndexOutOfBoundsException, when there is none. */
    private static void wordEdges(Check check) {
        AssembleLines x = check.assembled(".word 7, 8, 9");
        check.same("the first word", x.word(0), 7);
        check.same("the last word", x.word(2), 9);
        refused(check, "word(i)", 0, 2, i -> x.word(i));
        AssembleLines full = check.assembled(".word 7\n" + ".space 1000\n".repeat(65) + ".space 533\n.word 9");
        check.same("the last word of a full program", full.word(65534), 9);
        check.same("the word ahead of it", full.word(65533), 0);
        for (int i : new int[] {65535, 65536, 131071, -1}) {
            check.throwing("word(" + i + ")", IndexOutOfBoundsException.class, () -> full.word(i));
        }
        AssembleLines none = check.assembled("a:");
        check.throwing("word(0) of none", IndexOutOfBoundsException.class, () -> none.word(0));
        // Each of all words, forward and backward.
        AssembleLines many = check.assembled(".word ., 1\n".repeat(90));
        for (int i = 0; i < 180; i++) {
            check.same("word(" + i + ")", many.word(i), i % 2 == 0 ? i : 1);
            check.same("word(" + (179 - i) + ")", many.word(179 - i), i % 2 == 1 ? 179 - i : 1);
        }
    }

    /** Of a statement its line (what 0), place (1), how many words it has (2), whether it is long (3). */
    private static void statementEdges(Check check) {
        AssembleLines x = check.assembled("nop\n\nli r1, 256");
        check.same("the first one's place", x.statement(0, 1), 0);
        check.same("the last one's line", x.statement(1, 0), 3);
        check.same("the last one's place", x.statement(1, 1), 1);
        check.same("the last one's words", x.statement(1, 2), 2);
        check.same("the last one is long", x.statement(1, 3), 1);
        check.same("the first one is not", x.statement(0, 3), 0);
        for (int what = 0; what <= 3; what++) {
            int each = what;
            refused(check, "statement(k, " + what + ")", 0, 1, k -> x.statement(k, each));
        }
        refused(check, "statement(0, what)", 0, 3, what -> x.statement(0, what));
        refused(check, "statement(1, what)", 0, 3, what -> x.statement(1, what));
        AssembleLines none = check.assembled(".set a, 1");
        check.throwing("statement(0, 0) of none", IndexOutOfBoundsException.class, () -> none.statement(0, 0));
        AssembleLines full = check.assembled("nop\n".repeat(400));
        check.same("the 400th one's place", full.statement(399, 1), 399);
        check.throwing("a 401st statement", IndexOutOfBoundsException.class, () -> full.statement(400, 0));
    }

    /** The value of the k-th label (by statements; what 0), or of the k-th set name (1). */
    private static void nameEdges(Check check) {
        AssembleLines x = check.assembled("a: nop\n.set q, -5\nb: .set p, 70000\nc: nop\nd:");
        check.same("the first label", x.name(0, 0), 0);
        check.same("the last label", x.name(3, 0), 2);
        check.same("the first set name", x.name(0, 1), -5);
        check.same("the last set name", x.name(1, 1), 70000);
        refused(check, "name(k, 0)", 0, 3, k -> x.name(k, 0));
        refused(check, "name(k, 1)", 0, 1, k -> x.name(k, 1));
        refused(check, "name(0, what)", 0, 1, what -> x.name(0, what));
        AssembleLines labels = check.assembled("a:");
        check.throwing("a set name of none", IndexOutOfBoundsException.class, () -> labels.name(0, 1));
        AssembleLines sets = check.assembled(".set a, 1");
        check.throwing("a label of none", IndexOutOfBoundsException.class, () -> sets.name(0, 0));
        AssembleLines full = check.assembled(Promise8Test.manyLabels(399) + "z: nop");
        check.same("the 400th label", full.name(399, 0), 0);
        check.throwing("a 401st label", IndexOutOfBoundsException.class, () -> full.name(400, 0));
        check.throwing("a set name beside them", IndexOutOfBoundsException.class, () -> full.name(0, 1));
    }

    /** NONE for another what. */
    private static void countEdges(Check check) {
        AssembleLines x = check.assembled(WHOLE);
        Check.feed(x, "nop");
        int[] due = {3, 6, 6, 2, 2, 1, 1, 2, 0, 1};
        for (int what = 0; what < due.length; what++) {
            check.same("count(" + what + ")", x.count(what), due[what]);
        }
        check.same("count(-1)", x.count(-1), -1);
        check.same("count(10)", x.count(10), -1);
        for (int what : FAR) {
            check.same("count(" + what + ")", x.count(what), -1);
        }
        check.same("count(10) of a new object", new AssembleLines().count(10), -1);
    }

    /** A refused call leaves everything as it was. */
    private static void refusedCallsChangeNothing(Check check) {
        AssembleLines x = check.assembled(WHOLE);
        String text = "foo\n" + " ".repeat(4081 - 4);
        Check.feed(x, text);
        String before = answers(x);
        check.throwing("feed", IllegalStateException.class, () -> x.feed(0x0a666f6f, 0, 0, 0));
        check.throwing("end(17)", IllegalArgumentException.class, () -> x.end(17));
        check.throwing("end(-1)", IllegalArgumentException.class, () -> x.end(-1));
        check.throwing("error", IndexOutOfBoundsException.class, () -> x.error(0, 0));
        check.throwing("word", IndexOutOfBoundsException.class, () -> x.word(6));
        check.throwing("statement", IndexOutOfBoundsException.class, () -> x.statement(6, 0));
        check.throwing("name", IndexOutOfBoundsException.class, () -> x.name(2, 0));
        check.same("count(10)", x.count(10), -1);
        check.same("all is as before", answers(x).equals(before) ? 1 : 0, 1);
        check.throwing("assemble()", IllegalArgumentException.class, x::assemble);
        check.same("the text was as before", x.count(8), 1);
        check.same("its error's line", x.error(0, 1), 1);
    }

    private static String answers(AssembleLines x) {
        StringBuilder told = new StringBuilder();
        for (int what = 0; what <= 9; what++) {
            told.append(x.count(what)).append(' ');
        }
        for (int i = 0; i < x.count(1); i++) {
            told.append(x.word(i)).append(' ');
        }
        for (int i = 0; i < 4 * x.count(2); i++) {
            told.append(x.statement(i / 4, i % 4)).append(' ');
        }
        for (int i = 0; i < x.count(3); i++) {
            told.append(x.name(i, 0)).append(' ');
        }
        for (int i = 0; i < x.count(4); i++) {
            told.append(x.name(i, 1)).append(' ');
        }
        return told.toString();
    }

    /** Behind errors 1 to 7 and 9 are 0 (nothing is assembled then). */
    private static void behindErrorsNothingIsThere(Check check) {
        String[] wrong = {WHOLE + "\nfoo", WHOLE + "\nb x", WHOLE + "\n.word 65536", WHOLE + "\n" + ".space 1000\n".repeat(66),
            WHOLE + "\n.macro n"};
        for (String text : wrong) {
            AssembleLines x = check.assembled(WHOLE);
            Check.feed(x, text);
            check.throwing("assemble()", IllegalArgumentException.class, x::assemble);
            for (int what = 0; what <= 9; what++) {
                check.same("count(" + what + ") behind errors", x.count(what), what == 8 ? 1 : 0);
            }
            check.throwing("word(0)", IndexOutOfBoundsException.class, () -> x.word(0));
            check.throwing("statement(0, 0)", IndexOutOfBoundsException.class, () -> x.statement(0, 0));
            check.throwing("name(0, 0)", IndexOutOfBoundsException.class, () -> x.name(0, 0));
            check.throwing("name(0, 1)", IndexOutOfBoundsException.class, () -> x.name(0, 1));
        }
    }

    /** An object is used for at most 512 calls after it has been made: all of them answer. */
    private static void fiveHundredTwelveCalls(Check check) {
        AssembleLines x = new AssembleLines();
        for (int i = 0; i < 128; i++) {
            // ".word 1;" and blanks, or "foo", and end(..) in turn
            boolean isWrong = i % 2 == 1;
            x.feed(isWrong ? 0x666f6f20 : 0x2e776f72, 0x64203120, 0x20202020, 0x20202020);
            x.end(isWrong ? 3 : 16);
            if (isWrong) {
                check.throwing("assemble()", IllegalArgumentException.class, x::assemble);
                check.same("error(0, 0)", x.error(0, 0), 2);
            } else {
                check.same("assemble()", x.assemble(), 1);
                check.same("word(0)", x.word(0), 1);
            }
        }
    }
}
