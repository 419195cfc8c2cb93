/** An object answers as a new one does, whatever it assembled before. */
final class ReuseTest {
    private static final String[] TEXTS = {
        "",
        "nop\nnop\nnop\nnop\n",
        "li r7, 300\nadd r7, r7\nb 1000\nbz r7, 1000\nlw r7, =5\n.word .,.,.,.\n.space 5\n",
        "a: b: nop",
        "a: nop\nb: b a\nc: .word a, b, c, ., x\n.set x, 5\n",
        "lw r1, =1\nb .\nnop\nsub r1, r2\nli r1, 5\n.word 9\nx: b x\n.pool\nbz r3, x\n",
        ".macro m\nli r&0, &1\nx&n: b x&n\n.end\nm 1, 2\nm 3, 400\na: m 5, x1\n",
        ".macro m\nnop\n",
        ".macro m\nm\n.end\nm\n",
        ".macro o\ni &0,9\n.end\n.macro i\n.word &0&1\n.end\no 3\ni 4\no 5\n",
        "foo\nnop 1\na: nop\na: nop\n",
        "a: .macro m\nfoo\n",
        "b x\nb y\n.word 70000\n",
        ".set a, 1\n.set b, a+a\nnop\n.space b\nl: .set c, b\n",
        ".macro m\n" + ".word 1,2,3,4,5,6,7,e\n".repeat(4) + ".end\n" + "m\n".repeat(99) + "e:",
        "nop\n".repeat(401),
        ".space 1000\n".repeat(66),
        ".macro m\n.word &0&0&0\n.end\nm " + "+1".repeat(300) + "\nm +1\n",
    };

    public static void main(String[] args) {
        Check check = new Check();
        for (String first : TEXTS) {
            for (String second : TEXTS) {
                AssembleLines x = new AssembleLines();
                assembles(x, first);
                int same = answers(x, second).equals(answers(new AssembleLines(), second)) ? 1 : 0;
                check.same("the answers for " + second + " behind " + first + " are a new object's", same, 1);
            }
        }
        AssembleLines x = new AssembleLines();
        for (int i = 0; i < 10; i++) {
            assembles(x, TEXTS[14]);
        }
        check.same("words of a big text, for the tenth time", x.count(1), 3168);
        check.same("one of its words", x.word(3167), 3168);
        check.finish();
    }

    private static boolean assembles(AssembleLines x, String text) {
        Check.feed(x, text);
        try {
            x.assemble();
            return true;
        } catch (IllegalArgumentException e) {
            return false;
        }
    }

    private static String answers(AssembleLines x, String text) {
        StringBuilder told = new StringBuilder();
        told.append(assembles(x, text));
        int[] counts = new int[12];
        for (int i = 0; i < counts.length; i++) {
            counts[i] = x.count(i - 1);
            told.append(' ').append(counts[i]);
        }
        for (int i = 0; i < counts[9]; i++) {
            told.append(' ').append(x.error(i, 0)).append(' ').append(x.error(i, 1));
        }
        for (int i = 0; i < counts[2]; i += step(counts[2])) {
            told.append(' ').append(x.word(i));
        }
        for (int i = 0; i < 4 * counts[3]; i += step(4 * counts[3])) {
            told.append(' ').append(x.statement(i / 4, i % 4));
        }
        for (int i = 0; i < counts[4]; i++) {
            told.append(' ').append(x.name(i, 0));
        }
        for (int i = 0; i < counts[5]; i++) {
            told.append(' ').append(x.name(i, 1));
        }
        return told.toString();
    }

    /** Odd, so that all of a statement's answers are seen, and so wide that an object stays within its 512 calls. */
    private static int step(int answers) {
        return answers / 100 | 1;
    }
}
