/** Macros and calls. */
final class MacroTest {
    public static void main(String[] args) {
        Check check = new Check();
        substitution(check);
        operands(check);
        numbers(check);
        labels(check);
        bodies(check);
        wrongMacros(check);
        wrongLines(check);
        depth(check);
        limits(check);
        check.finish();
    }

    private static String macro(String name, String body) {
        return ".macro " + name + "\n" + body + "\n.end\n";
    }

    private static void substitution(Check check) {
        check.words(macro("m", ".word &0, &1+&2, &3") + "m 1,2,3,4", 1, 5, 4);
        check.words(macro("m", "&0 &1 ; &2") + "m nop\nm .word, 5\nm .word, 7, 8", 0, 5, 7);
        check.words(macro("m", "l&0: .word &0&1") + "m 1, 2\nm 2", 12, 2);
        check.words(macro("m", "&0&1&2&3") + "m n,o,p\nm .wo, rd 4+, 5\nm .word 6", 0, 9, 6);
        check.words(macro("m", ".word &0") + "m 1 + 2\nm   - 3  ;4", 3, 0xfffd);
        check.right(macro("m", ".word &4"));
        check.errors(macro("m", ".word &4") + "m 1", 1, 4);
        check.errors(macro("m", ".word &") + "m 1", 1, 4);
        check.errors(macro("m", ".word &x") + "m 1", 1, 4);
        check.errors(macro("m", ".word &&0") + "m 1", 1, 4);
        check.right(macro("m", "nop ; & &4 &x &&"));
        // What an operand brings is not put together once more.
        check.errors(macro("m", ".word &0") + "m &1, 5", 1, 4);
        check.right(macro("m", "nop ;&0") + "m &1, 5\nm");
    }

    private static void operands(Check check) {
        check.words(macro("m", ".word 1&0&1&2&3") + "m\nm  ,\nm ,,,\nm ,,,2\nm , 3 ,,", 1, 1, 1, 12, 13);
        check.errors(macro("m", "nop") + "m 1,2,3,4,5\nm ,,,,\nm 1,2,3,4,", 1, 4, 1, 5, 1, 6);
        check.words(macro("m", "&0 &1, &2") + "m li, r1, 5\nm add, r2, r3", 0x1205, 0x34c0);
        check.right(macro("m", "") + "m a b  c, \"\", ~!@#$%^, 1:2");
        check.errors(macro("m", "") + "m,1\nm:1\nm-", 1, 4, 1, 5, 1, 6);
    }

    private static void numbers(Check check) {
        check.words(macro("m", ".word &n") + "m\nm\nm", 1, 2, 3);
        check.words(macro("i", ".word &n") + macro("o", "i\n.word &n\ni") + "o\ni\no", 2, 1, 3, 4, 6, 5, 7);
        check.words(macro("m", "a&n: b a&n\n.word &n&n") + "m\nm", 0x503f, 11, 0x503f, 22);
        // A call that is refused is none, so the next one has its number.
        AssembleLines x = check.assembled(macro("m", ".word &n") + "m\n".repeat(100));
        check.same("the number of the last call", x.word(99), 100);
        check.same("calls", x.count(6), 100);
        check.errors(macro("m", ".space 2-&n") + "m 1,2,3,4,5\nm\nm\nm", 1, 4, 5, 7);
    }

    private static void labels(Check check) {
        check.words(macro("m", "nop\nnop") + "nop\na: m\nb: m\n.word a, b", 0, 0, 0, 0, 0, 1, 3);
        check.errors(macro("m", "a: nop") + "a: m", 3, 4);
        check.errors(macro("m", "a: nop") + "m\nm", 3, 5);
        check.errors(macro("m", "a: nop") + "a: m ,,,,\na: nop", 1, 4);
        check.errors(macro("m", "nop") + "r1: m\nm", 1, 4);
    }

    private static void bodies(Check check) {
        check.right(".macro m\n.end");
        check.right(".macro m\nfoo\n\1\nr1: nop\n.macro n\n.end");
        check.words(macro("m", "nop").replace(".end", "a: .end") + "m", 0);
        check.words(macro("m", "nop").replace(".end", "a:.end 1, 2, ; 3") + "m", 0);
        check.words(macro("m", "nop").replace(".end", "  .end") + "m", 0);
        check.words(macro("m", "nop\n; .end\n") + "m", 0);
        check.errors(".macro m\n.ends\n.end1\nend\n.end:\n.end,\nx .end\n&0 .end", 1, 1);
        check.errors(".macro m\n.end \1\n", 1, 1);
        check.right(".macro m\n.end ;\1\n");
        check.right(".macro m\nfoo\n.end\n");
        check.errors("m\n" + macro("m", "nop") + "m", 2, 1);
        check.words(macro("r1", "nop") + "r1\nr1 r1", 0, 0);
        check.words(macro("a", "nop") + "a: a\nb a", 0, 0x503e);
        check.words(macro("set", "nop") + "set", 0);
    }

    private static void wrongMacros(Check check) {
        check.errors(".macro m", 1, 1);
        check.errors("foo\n.macro m\nfoo\n", 2, 1, 1, 2);
        check.errors(".macro\nfoo\n.end\nfoo", 1, 1, 2, 4);
        check.errors(".macro m n\nfoo\n.end\nfoo", 1, 1, 2, 4);
        check.errors(".macro 1\nfoo\n.end\nm", 1, 1, 2, 4);
        check.errors("a: .macro m\nfoo\n.end\nm\na: nop", 1, 1, 2, 4);
        check.errors("a: .macro m\nfoo", 1, 1);
        check.errors(".macro m,n\nfoo", 1, 1);
        // What is no .macro has no body either.
        check.errors("r1: .macro m\nfoo\n.end", 1, 1, 2, 2, 1, 3);
        check.errors("a23456789_1: .macro m\nfoo\n.end", 1, 1, 2, 2, 1, 3);
        check.errors(".macro m \1\nfoo\n.end", 1, 1, 2, 2, 1, 3);
        check.errors(".macro1 m\nfoo\n.end", 1, 1, 2, 2, 1, 3);
        check.errors(macro("m", "nop") + macro("m", "foo") + "m\nfoo", 3, 4, 2, 8);
        for (String name : new String[] {"nop", "li", "add", "sub", "b", "bz", "lw"}) {
            check.errors(macro(name, "foo") + name + "s", 3, 1, 2, 4);
        }
        // Labels and set names are of another kind.
        check.right("m: nop\n.set n, 1\n" + macro("m", "nop") + macro("n", "nop") + "m\nn");
    }

    private static void wrongLines(Check check) {
        check.errors(macro("m", "foo\nnop\nnop 1\n&0: nop\n.space 1001\n.set z, y") + "nop\nm r1\nm a\nm a",
                2, 10, 1, 10, 1, 10, 5, 10, 4, 10, 2, 11, 1, 11, 5, 11, 4, 11, 2, 12, 1, 12, 3, 12, 5, 12, 4, 12);
        check.errors(macro("m", "\1\nnop \1") + "m", 1, 5, 1, 5);
        check.errors(macro("m", ".&0") + "m end\nfoo", 1, 4, 2, 5);
        check.errors(macro("m", "nop\nb x") + "m\nm", 4, 5, 4, 6);
        // A .macro that a call puts together is wrong, so that the lines behind it are passed over, too.
        check.errors(macro("m", ".macro n") + "m", 1, 4);
        check.errors(macro("m", ".macro n\nfoo") + "m\nfoo\n.end\nfoo", 1, 5, 2, 8);
    }

    private static void depth(Check check) {
        StringBuilder six = new StringBuilder(macro("m0", ".word &n"));
        for (int i = 1; i <= 6; i++) {
            six.append(macro("m" + i, "m" + (i - 1)));
        }
        check.words(six + "m5", 6);
        check.errors(six + "m6\nm5", 6, 22);
        check.errors(macro("m", "m") + "m", 6, 4);
        check.errors(macro("m", "m\nfoo") + "m", 6, 5, 2, 5, 2, 5, 2, 5, 2, 5, 2, 5, 2, 5);
        check.errors(macro("m", "foo\nm &0") + "nop\nm", 2, 6, 2, 6, 2, 6, 2, 6, 2, 6, 2, 6, 6, 6);
        check.words(macro("i", ".word &0, &1") + macro("o", "i &1, &0\ni &0 , &1") + "o 1, 2", 2, 1, 1, 2);
    }

    private static void limits(Check check) {
        check.errors(macro("m", "nop") + "m\n".repeat(101), 6, 104);
        check.errors(macro("m", "") + "m\n".repeat(103), 6, 104, 6, 105, 6, 106);
        check.errors(macro("m", "") + "m\n".repeat(99) + "m ,,,,\nm\nm", 1, 103, 6, 105);
        StringBuilder twelve = new StringBuilder();
        for (int i = 0; i < 12; i++) {
            twelve.append(macro("m" + i, ".word " + i));
        }
        check.words(twelve + "m0\nm11", 0, 11);
        check.errors(twelve + macro("n", "foo") + macro("m0", "foo") + "n\nm11", 6, 37, 3, 40, 2, 43);
        longLines(check);
    }

    private static void longLines(Check check) {
        String ninety = "nop " + ";".repeat(86);
        check.right(macro("m", ninety + "&0") + "m 1234567890");
        check.errors(macro("m", ninety + "&0") + "m 12345678901", 6, 4);
        check.right(macro("m", ninety + "12345678&n") + "m\n".repeat(10));
        check.errors(macro("m", ninety + "123456789&n") + "m\n".repeat(10), 6, 13);
        check.right(macro("m", "nop " + ";".repeat(95) + "&3") + "m 1");
        check.errors(macro("m", " ".repeat(101)) + "m", 6, 4);
        check.errors(macro("m", ";".repeat(101)) + "m", 6, 4);
        check.right(macro("m", " ".repeat(101)));
        check.right("nop" + " ".repeat(3000));
        check.words(macro("m", ".word &0" + "+1".repeat(45) + " ") + "m 1", 46);
        // What else is wrong is told ahead of it.
        check.errors(macro("m", "foo" + " ".repeat(98)) + "m", 2, 4);
        check.errors(macro("m", "nop 1" + " ".repeat(98)) + "m", 1, 4);
        check.errors(macro("m", "m: nop" + " ".repeat(98)) + "m: nop\nm", 3, 5);
        check.errors(macro("m", ".space 1001" + " ".repeat(98)) + "m", 5, 4);
        check.errors(macro("m", ".set a, b" + " ".repeat(98)) + "m", 4, 4);
        check.errors(macro("m", ".word " + "&0".repeat(1000)) + "m " + "+1".repeat(900), 6, 4);
        check.errors(macro("m", ".word " + "&0".repeat(1000)) + "m " + "1+".repeat(900), 1, 4);
        check.errors(macro("m", "nop " + "&0".repeat(1000) + "1") + "m " + " ".repeat(900), 1, 4);
        check.errors(macro("m", "nop &0" + "&1".repeat(900) + "&2") + "m ;\nm  , ,\nm , , 1\nm ,1", 1, 6, 1, 7);
        check.errors(macro("m", ".word 11" + "&0".repeat(1000) + "+") + "m " + "+1".repeat(900), 1, 4);
    }
}
