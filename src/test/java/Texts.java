import java.util.ArrayList;
import java.util.List;
import java.util.Random;

/** Makes texts for the model's test; the same random numbers make the same text. */
final class Texts {
    private static final int MOST_BYTES = 4096;
    private static final String[] NAMES = {"a", "b", "c9", "_d", "e_e", "nop", "li", "r1", "r8", "abcdefghij", "abcdefghijk", "m0", "m1"};
    private static final String[] OPERATIONS = {"nop", "li", "add", "sub", "b", "bz", "lw", ".word", ".space", ".pool", ".set",
        ".macro", ".end", ".foo", "foo", "m0", "m1", "m2"};
    private static final String[] SIGNS = {"", "", "", "+", "-", " + ", " -", "- "};
    private static final String ODD_BYTES = " ,.:;&=+-019xnrm_\n\t~\177\0\200\377";

    private final Random random;
    private final List<String> labels = new ArrayList<>();
    private final List<String> sets = new ArrayList<>();
    private final List<String> macros = new ArrayList<>();

    Texts(Random random) {
        this.random = random;
    }

    private int below(int bound) {
        return random.nextInt(bound);
    }

    private boolean isOneOf(int n) {
        return below(n) == 0;
    }

    private String any(String[] all) {
        return all[below(all.length)];
    }

    private String any(List<String> all, String none) {
        return all.isEmpty() ? none : all.get(below(all.size()));
    }

    private static String cut(String text) {
        return text.length() > MOST_BYTES ? text.substring(0, MOST_BYTES) : text;
    }

    /** Lines of all kinds, most of them with an error somewhere, and bytes that are changed. */
    String wild() {
        StringBuilder text = new StringBuilder();
        int lines = 1 + below(isOneOf(10) ? 150 : 12);
        for (int i = 0; i < lines; i++) {
            text.append((wildLine() + '\n').repeat(isOneOf(100) ? 99 + below(4) : 1));
        }
        for (int i = below(4); i > 0; i--) {
            changeByte(text);
        }
        return cut(text.toString());
    }

    private void changeByte(StringBuilder text) {
        int at = below(text.length());
        char odd = ODD_BYTES.charAt(below(ODD_BYTES.length()));
        if (isOneOf(3)) {
            text.deleteCharAt(at);
            text.append(' ');
        } else if (isOneOf(2)) {
            text.setCharAt(at, odd);
        } else {
            text.insert(at, odd);
        }
    }

    private String wildLine() {
        if (isOneOf(8)) {
            return ".macro m" + below(4) + (isOneOf(3) ? "" : "\n" + wildLine()) + "\n" + wildLine() + (isOneOf(9) ? "" : "\n.end");
        }
        StringBuilder line = new StringBuilder(blanks());
        if (isOneOf(4)) {
            line.append(any(NAMES)).append(isOneOf(9) ? "&n" : "").append(':').append(blanks());
        }
        if (!isOneOf(9)) {
            String operation = any(OPERATIONS);
            line.append(operation).append(isOneOf(40) ? "" : " ").append(wildOperands(operation));
        }
        return line.append(blanks()).append(isOneOf(9) ? "; \1,x&0" : "").toString();
    }

    private String wildOperands(String operation) {
        String comma = blanks() + "," + blanks();
        switch (isOneOf(8) ? any(OPERATIONS) : operation) {
            case "li":
            case "bz":
                return register() + comma + wildSum();
            case "add":
            case "sub":
                return register() + comma + register();
            case "lw":
                return register() + comma + "=" + blanks() + wildSum();
            case "b":
            case ".space":
                return wildSum();
            case ".word":
                return repeated(comma, 1 + below(isOneOf(5) ? 9 : 3));
            case ".set":
                return any(NAMES) + comma + wildSum();
            case ".macro":
                return any(NAMES);
            case "m0":
            case "m1":
            case "m2":
                return repeated(comma, below(isOneOf(9) ? 6 : 4));
            default:
                return "";
        }
    }

    private String repeated(String comma, int n) {
        StringBuilder all = new StringBuilder();
        for (int i = 0; i < n; i++) {
            all.append(i == 0 ? "" : comma).append(isOneOf(12) ? wildLine() : wildSum());
        }
        return all.toString();
    }

    private String register() {
        return isOneOf(9) ? "&" + below(5) : "r" + below(isOneOf(9) ? 10 : 8);
    }

    private String wildSum() {
        StringBuilder sum = new StringBuilder(any(SIGNS));
        int terms = 1 + below(isOneOf(4) ? 4 : 1);
        for (int i = 0; i < terms; i++) {
            sum.append(i == 0 ? "" : isOneOf(2) ? "+" : " - ").append(wildTerm());
        }
        return sum.toString();
    }

    private String wildTerm() {
        switch (below(9)) {
            case 0:
                return "0x" + Integer.toHexString(random.nextInt() >>> below(32));
            case 1:
                return "&" + "0123n4".charAt(below(6));
            case 2:
                return ".";
            case 3:
            case 4:
                return any(NAMES);
            case 5:
                return Integer.toString(random.nextInt() >>> 1 + below(31));
            default:
                return Integer.toString(below(40));
        }
    }

    private String blanks() {
        return isOneOf(3) ? " ".repeat(below(3)) : "";
    }

    /** Lines that are right, but for few: their labels, set names and macros are known, and branches lie near their aims. */
    String tame() {
        StringBuilder text = new StringBuilder();
        int lines = 5 + below(isOneOf(4) ? 300 : 60);
        for (int i = 0; i < lines; i++) {
            labels.add("l" + i);
        }
        int far = below(3) * 20;
        for (int i = 0; i < lines && text.length() < MOST_BYTES - 400; i++) {
            text.append('l').append(i).append(": ").append(tameLine(i, far)).append('\n');
            if (isOneOf(12)) {
                text.append(tameMacro());
            }
            if (isOneOf(6)) {
                sets.add("s" + sets.size());
                text.append(".set s").append(sets.size() - 1).append(", ").append(tameNumber()).append('\n');
            }
            if (isOneOf(15)) {
                text.append(".pool\n");
            }
        }
        // Labels that the loop did not come to.
        for (int i = 0; i < lines; i++) {
            if (text.indexOf("l" + i + ": ") < 0 && text.length() < MOST_BYTES - 10) {
                text.append('l').append(i).append(":\n");
            }
        }
        return cut(text.toString());
    }

    /** A tame text in which few lines are gone, twice there or wild, or few bytes are changed. */
    String spoiled() {
        List<String> lines = new ArrayList<>(List.of(tame().split("\n")));
        for (int i = below(3); i > 0; i--) {
            int at = below(lines.size());
            if (isOneOf(3)) {
                lines.remove(at);
            } else {
                lines.add(at, isOneOf(2) ? wildLine() : lines.get(below(lines.size())));
            }
        }
        StringBuilder text = new StringBuilder(String.join("\n", lines)).append('\n');
        for (int i = below(3); i > 0; i--) {
            changeByte(text);
        }
        return cut(text.toString());
    }

    private String tameMacro() {
        if (macros.size() > 11) {
            return "";
        }
        String inner = macros.isEmpty() || isOneOf(2) ? "nop" : any(macros, "nop") + " &0, &1, &2";
        macros.add("m" + macros.size());
        return ".macro m" + (macros.size() - 1) + "\nx&n: li r&2, &0+0 ; &3\n" + inner + "\nb x&n+&1\n.end\n";
    }

    private String tameLine(int i, int far) {
        String near = "l" + Math.max(0, Math.min(labels.size() - 1, i + below(2 * far + 5) - far - 2));
        switch (below(12)) {
            case 0:
                return "nop";
            case 1:
                return "li r" + below(8) + ", " + tameSum();
            case 2:
                return "add r" + below(8) + ", r" + below(8);
            case 3:
                return "sub r" + below(8) + ",r" + below(8);
            case 4:
            case 5:
                return "b " + near;
            case 6:
            case 7:
                return "bz r" + below(8) + ", " + near;
            case 8:
                return "lw r" + below(8) + ", = " + tameSum();
            case 9:
                return ".word " + tameSum() + (isOneOf(2) ? "" : ", ., " + near);
            case 10:
                return ".space " + below(isOneOf(20) ? 1000 : 30);
            default:
                return macros.isEmpty() ? "" : any(macros, "") + " " + tameNumber() + ", " + below(40) + "," + below(8);
        }
    }

    private String tameSum() {
        switch (below(5)) {
            case 0:
                return any(labels, "0");
            case 1:
                return any(sets, "1") + " - 2";
            case 2:
                return any(labels, "0") + "-" + any(labels, "0") + "+" + below(300);
            case 3:
                return "." + (isOneOf(2) ? "" : " + 5");
            default:
                return tameNumber();
        }
    }

    private String tameNumber() {
        switch (below(4)) {
            case 0:
                return "-" + below(300);
            case 1:
                return "0x" + Integer.toHexString(below(0x8000));
            default:
                return Integer.toString(below(520));
        }
    }
}
