import java.util.Arrays;
import java.util.Random;

/** Compares the class with the model on made texts: wild ones full of errors, tame ones with hardly any, and spoiled ones. */
final class ModelTest {
    private static final int TEXTS = 2000;

    /** Another number of texts of each kind, and another first seed, may be told. */
    public static void main(String[] args) {
        Check check = new Check();
        int texts = args.length > 0 ? Integer.parseInt(args[0]) : TEXTS;
        int firstSeed = args.length > 1 ? Integer.parseInt(args[1]) : 0;
        int right = 0;
        String before = "";
        for (int seed = firstSeed; seed < firstSeed + texts; seed++) {
            String wild = texts(seed).wild();
            String spoiled = texts(seed).spoiled();
            String tame = texts(seed).tame();
            compare(check, before, wild);
            compare(check, wild, spoiled);
            right += compare(check, spoiled, tame) ? 1 : 0;
            before = tame;
        }
        check.same("most tame texts have no errors", right > texts / 2 ? 1 : 0, 1);
        check.finish();
    }

    private static Texts texts(int seed) {
        return new Texts(new Random(seed));
    }

    /** Objects that have assembled a piece of another text and then the text, each one asked within its 512 calls. */
    private static final class Asked {
        private static final int MOST_CALLS = 512;
        private static final int MOST_BEFORE = 1000;

        private final String before;
        private final String text;
        private AssembleLines x;
        private int left;
        int answer;

        Asked(String before, String text) {
            this.before = before.length() > MOST_BEFORE ? before.substring(0, MOST_BEFORE) : before;
            this.text = text;
            renew();
        }

        AssembleLines object() {
            if (left == 0) {
                renew();
            }
            left--;
            return x;
        }

        private void renew() {
            x = new AssembleLines();
            left = MOST_CALLS;
            assemble(before);
            answer = assemble(text);
        }

        private int assemble(String fed) {
            Check.feed(x, fed);
            // One feed for each sixteen bytes, perhaps one end, and the call below.
            left -= (fed.length() + 15) / 16 + (fed.length() % 16 == 0 ? 0 : 1) + 1;
            try {
                return x.assemble();
            } catch (IllegalArgumentException e) {
                return -1;
            }
        }
    }

    /** Whether the text has no errors. */
    private static boolean compare(Check check, String before, String text) {
        Model model = new Model(text);
        Asked asked = new Asked(before, text);
        boolean isRight = model.errors.isEmpty();
        String of = " of " + Check.shown(text);
        check.same("assemble()" + of, asked.answer, isRight ? model.words : -1);
        int[] errors = new int[2 * asked.object().count(8)];
        for (int i = 0; i < errors.length; i++) {
            errors[i] = asked.object().error(i / 2, i % 2);
        }
        check.sameRow("errors" + of, errors, model.errors.stream().flatMapToInt(Arrays::stream).toArray());
        int[] counts = new int[10];
        for (int what = 0; what < counts.length; what++) {
            counts[what] = asked.object().count(what);
        }
        check.sameRow("counts" + of, counts, model.counts());
        if (isRight) {
            compareProgram(check, asked, model, of);
        }
        return isRight;
    }

    private static void compareProgram(Check check, Asked asked, Model model, String of) {
        int[] due = model.allWords();
        int[] got = new int[due.length];
        for (int i = 0; i < due.length; i++) {
            // Of the many words of a .space, some are enough.
            got[i] = due[i] != 0 || i % 17 == 0 ? asked.object().word(i) : 0;
        }
        check.sameRow("words" + of, got, due);
        for (int k = 0; k < model.statements.size(); k++) {
            int[] told = new int[4];
            for (int what = 0; what < told.length; what++) {
                told[what] = asked.object().statement(k, what);
            }
            Model.Statement s = model.statements.get(k);
            check.sameRow("statement " + k + of, told, new int[] {s.line, s.place, s.size, s.isLong ? 1 : 0});
        }
        for (int k = 0; k < model.labels.size(); k++) {
            check.same("label " + k + of, asked.object().name(k, 0), model.labelValue(k));
        }
        for (int k = 0; k < model.sets.size(); k++) {
            check.same("set name " + k + of, asked.object().name(k, 1), model.setValue(k));
        }
    }
}
