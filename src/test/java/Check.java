import java.nio.charset.StandardCharsets;
import java.util.Arrays;

/** The tests' helper: feeds texts, compares answers, and ends with exit code 1 if one was wrong. */
final class Check {
    private int compared;
    private int wrong;

    /** A call whose exception is looked at. */
    interface Call {
        int run();
    }

    /** Feeds a whole text, whatever its length is, without counting what was fed before. */
    static void feed(AssembleLines x, String text) {
        byte[] bytes = text.getBytes(StandardCharsets.ISO_8859_1);
        for (int from = 0; from < bytes.length; from += 16) {
            byte[] piece = Arrays.copyOfRange(bytes, from, from + 16);
            x.feed(packed(piece, 0), packed(piece, 4), packed(piece, 8), packed(piece, 12));
            if (bytes.length - from < 16) {
                x.end(bytes.length - from);
            }
        }
    }

    private static int packed(byte[] piece, int at) {
        return (piece[at] & 255) << 24 | (piece[at + 1] & 255) << 16 | (piece[at + 2] & 255) << 8 | piece[at + 3] & 255;
    }

    static AssembleLines fed(String text) {
        AssembleLines x = new AssembleLines();
        feed(x, text);
        return x;
    }

    /** A text that has no errors, assembled. */
    AssembleLines assembled(String text) {
        AssembleLines x = fed(text);
        try {
            x.assemble();
        } catch (IllegalArgumentException e) {
            tell("assemble() of " + shown(text) + " has errors: " + errorsOf(x));
        }
        return x;
    }

    void same(String call, long got, long due) {
        compared++;
        if (got != due) {
            tell(call + " answered " + got + ", due is " + due);
        }
    }

    void throwing(String call, Class<? extends RuntimeException> due, Call run) {
        compared++;
        try {
            int got = run.run();
            tell(call + " answered " + got + ", due is " + due.getSimpleName());
        } catch (RuntimeException e) {
            if (e.getClass() != due) {
                tell(call + " threw " + e.getClass().getSimpleName() + ", due is " + due.getSimpleName());
            }
        }
    }

    /** All the words of a text. */
    void words(String text, int... due) {
        AssembleLines x = assembled(text);
        int[] got = new int[x.count(1)];
        for (int i = 0; i < got.length; i++) {
            got[i] = x.word(i);
        }
        sameRow("words of " + shown(text), got, due);
    }

    /** All the statements of a text: line, place, words and form of each. */
    void statements(String text, int... due) {
        AssembleLines x = assembled(text);
        int[] got = new int[4 * x.count(2)];
        for (int i = 0; i < got.length; i++) {
            got[i] = x.statement(i / 4, i % 4);
        }
        sameRow("statements of " + shown(text), got, due);
    }

    /** All the errors of a text: number and line of each. */
    void errors(String text, int... due) {
        AssembleLines x = fed(text);
        boolean hasThrown = false;
        try {
            x.assemble();
        } catch (IllegalArgumentException e) {
            hasThrown = true;
        }
        int[] got = new int[2 * x.count(8)];
        for (int i = 0; i < got.length; i++) {
            got[i] = x.error(i / 2, i % 2);
        }
        sameRow("errors of " + shown(text), got, due);
        same("assemble() throws for " + shown(text), hasThrown ? 1 : 0, due.length > 0 ? 1 : 0);
    }

    /** A text that has no errors. */
    void right(String text) {
        errors(text);
    }

    void sameRow(String call, int[] got, int[] due) {
        compared++;
        if (!Arrays.equals(got, due)) {
            tell(call + " are " + Arrays.toString(got) + ", due are " + Arrays.toString(due));
        }
    }

    /** A text many times over. */
    static String times(int n, String text) {
        return text.repeat(n);
    }

    private static String errorsOf(AssembleLines x) {
        StringBuilder told = new StringBuilder();
        for (int i = 0; i < x.count(8); i++) {
            told.append(x.error(i, 0)).append(" in line ").append(x.error(i, 1)).append("; ");
        }
        return told.toString();
    }

    static String shown(String text) {
        String whole = text.replace("\n", "\\n");
        return '"' + (whole.length() > 160 ? whole.substring(0, 160) + ".." : whole) + '"';
    }

    private void tell(String what) {
        wrong++;
        System.out.println(what);
    }

    void finish() {
        System.out.println(compared + " compared, " + wrong + " wrong");
        if (wrong > 0) {
            System.exit(1);
        }
    }
}
