import java.nio.charset.StandardCharsets;
import java.util.Arrays;

/** The examples of README.md, as they stand there. */
final class ReadmeTest {
    public static void main(String[] args) {
        Check check = new Check();
        firstExample(check);
        program(check);
        errors(check);
        check.finish();
    }

    private static void firstExample(Check check) {
        AssembleLines lines = new AssembleLines();
        check.same("feed(..)", lines.feed(0x6c692072, 0x312c2033, 0x30300a00, 0), 16);
        check.same("end(11)", lines.end(11), 11);
        check.same("assemble()", lines.assemble(), 2);
        check.same("word(0)", lines.word(0), 0x2200);
        check.same("word(1)", lines.word(1), 300);
    }

    /** README's way of feeding a text. */
    private static void feed(AssembleLines lines, String text) {
        byte[] bytes = text.getBytes(StandardCharsets.ISO_8859_1);
        for (int from = 0; from < bytes.length; from += 16) {
            int[] four = new int[4];
            for (int i = 0; i < 16 && from + i < bytes.length; i++) {
                four[i / 4] |= (bytes[from + i] & 255) << 24 - i % 4 * 8;
            }
            lines.feed(four[0], four[1], four[2], four[3]);
        }
        if (bytes.length % 16 > 0) {
            lines.end(bytes.length % 16);
        }
    }

    private static void program(Check check) {
        AssembleLines lines = new AssembleLines();
        feed(lines, """
                .set size, 3
                .macro twice            ; &0 is the call's first operand, &n its number
                again&n: add r&0, r&0
                         bz r&0, again&n
                .end
                start: li r1, 300       ; long
                       twice 1
                       lw r2, = start + size
                       b start
                table: .space size
                """);
        check.same("words", lines.assemble(), 10);
        int[] due = {0x2200, 300, 0x3240, 0x721e, 0x9404, 0x503a, 0, 0, 0, 3};
        int[] words = new int[10];
        for (int i = 0; i < words.length; i++) {
            words[i] = lines.word(i);
        }
        check.sameRow("words", words, due);
        check.same("the line of the third statement", lines.statement(2, 0), 7);
        check.same("the first statement is long", lines.statement(0, 3), 1);
        check.same("the label table", lines.name(2, 0), 6);
        check.same("the set name size", lines.name(0, 1), 3);
        int[] counts = new int[10];
        Arrays.setAll(counts, lines::count);
        check.sameRow("counts", counts, new int[] {0, 10, 6, 3, 1, 1, 1, 2, 0, 1});
    }

    private static void errors(Check check) {
        AssembleLines lines = new AssembleLines();
        feed(lines, "nop 1\nfoo r1\n");
        check.throwing("assemble()", IllegalArgumentException.class, lines::assemble);
        check.same("errors", lines.count(8), 2);
        int[] told = {lines.error(0, 0), lines.error(0, 1), lines.error(1, 0), lines.error(1, 1)};
        check.sameRow("errors", told, new int[] {1, 1, 2, 2});
    }
}
