import java.util.ArrayList;
import java.util.LinkedHashMap;
import java.util.List;
import java.util.Map;
import java.util.regex.Matcher;
import java.util.regex.Pattern;

/** The document once more, with texts, patterns and maps: slow, but plain enough to be read beside it. */
final class Model {
    private static final int FORM = 1;
    private static final int UNKNOWN = 2;
    private static final int TWICE = 3;
    private static final int NAME = 4;
    private static final int RANGE = 5;
    private static final int DEEP = 6;

    private static final String A_NAME = "[a-z_][a-z0-9_]{0,9}+";
    private static final String TERM = "(?:0x[0-9a-f]{1,8}+|[0-9]{1,9}+|" + A_NAME + "|\\.)";
    private static final String E = " *+[+-]?+ *+" + TERM + "(?: *+[+-] *+" + TERM + ")*+ *+";
    private static final String R = " *+(r[0-7]) *+";
    private static final Pattern HEAD =
            Pattern.compile(" *+(?:(" + A_NAME + "):)?+ *+(?:(" + A_NAME + "|\\.[a-z]++)(?: (.*))?+)?+");
    private static final Pattern TOKEN = Pattern.compile("[+-]|" + TERM);
    private static final Map<String, Pattern> OPERATIONS = new LinkedHashMap<>();

    static {
        put("nop", " *+");
        put("li", R + ",(" + E + ")");
        put("add", R + "," + R);
        put("sub", R + "," + R);
        put("b", "(" + E + ")");
        put("bz", R + ",(" + E + ")");
        put("lw", R + ", *+=(" + E + ")");
        put(".word", "(" + E + "(?:," + E + "){0,7}+)");
        put(".space", "(" + E + ")");
        put(".pool", " *+");
        put(".set", " *+(" + A_NAME + ") *+,(" + E + ")");
        put(".macro", " *+(" + A_NAME + ") *+");
        put(".end", "(?!)");
    }

    private static void put(String operation, String operands) {
        OPERATIONS.put(operation, Pattern.compile(operands));
    }

    /** What a statement is, and what the rounds make of it. */
    static final class Statement {
        int line;
        String label;
        String operation;
        int register;
        int second;
        String[] values = {};
        int place;
        int size;
        int literal = -1;
        boolean isLong;
    }

    final List<int[]> errors = new ArrayList<>();
    final List<Statement> statements = new ArrayList<>();
    final Map<String, Statement> labels = new LinkedHashMap<>();
    final Map<String, Integer> sets = new LinkedHashMap<>();
    final Map<String, List<String>> macros = new LinkedHashMap<>();
    int calls;
    int rounds;
    int words;

    private boolean isPassing;
    private List<String> body;
    private int macroLine;

    Model(String text) {
        String[] lines = text.split("\n", -1);
        for (int i = 0; i < lines.length; i++) {
            if (i < lines.length - 1 || !lines[i].isEmpty()) {
                look(lines[i], i + 1, 0);
            }
        }
        if (body != null) {
            tell(FORM, macroLine);
        }
        if (errors.isEmpty()) {
            turnTwo();
        }
    }

    private void tell(int number, int line) {
        if (errors.size() < 50) {
            errors.add(new int[] {number, line});
        }
    }

    private void look(String whole, int line, int depth) {
        String seen = whole.replaceFirst(";.*", "");
        Matcher head = HEAD.matcher(seen);
        boolean isLine = seen.matches("[ -~]*+") && head.matches();
        if (isPassing) {
            pass(whole, isLine && ".end".equals(head.group(2)));
            return;
        }
        if (!isLine || isRegister(head.group(1))) {
            tell(FORM, line);
            return;
        }
        String operation = head.group(2);
        String operands = head.group(3) == null ? "" : head.group(3);
        Statement s = new Statement();
        s.line = line;
        s.label = head.group(1);
        s.operation = operation;
        int error = errorOf(s, operands, depth, whole.length());
        if (error != 0) {
            tell(error, line);
        }
        if (".macro".equals(operation)) {
            isPassing = true;
            body = error == 0 ? new ArrayList<>() : null;
            macroLine = line;
            if (error == 0) {
                macros.put(operands.trim(), body);
            }
        } else if (error == 0) {
            keep(s, operands, depth);
        }
    }

    private void pass(String whole, boolean isEnd) {
        if (isEnd) {
            isPassing = false;
            body = null;
        } else if (body != null) {
            body.add(whole);
        }
    }

    private static boolean isRegister(String name) {
        return name != null && name.matches("r[0-7]");
    }

    private int errorOf(Statement s, String operands, int depth, int bytes) {
        boolean isCall = s.operation != null && macros.containsKey(s.operation);
        boolean isSet = ".set".equals(s.operation);
        boolean isMacro = ".macro".equals(s.operation);
        Matcher m = null;
        if (s.operation != null && !isCall) {
            if (!OPERATIONS.containsKey(s.operation)) {
                return UNKNOWN;
            }
            m = OPERATIONS.get(s.operation).matcher(operands);
            if (!m.matches() || isSet && isRegister(m.group(1)) || isMacro && (depth > 0 || s.label != null)) {
                return FORM;
            }
        }
        if (isCall && operands.split(",", -1).length > 4) {
            return FORM;
        }
        if (s.label != null && isTold(s.label)
                || isSet && (m.group(1).equals(s.label) || isTold(m.group(1)))
                || isMacro && (macros.containsKey(m.group(1)) || OPERATIONS.containsKey(m.group(1)))) {
            return TWICE;
        }
        if (isSet || ".space".equals(s.operation)) {
            String e = m.group(m.groupCount());
            if (!areSet(e)) {
                return NAME;
            }
            if (!isSet && (value(e, 0) < 0 || value(e, 0) > 1000)) {
                return RANGE;
            }
        }
        boolean isStatement = s.label != null || s.operation != null && !isCall && !isSet && !isMacro;
        return depth > 0 && bytes > 100
                || isCall && (depth >= 6 || calls >= 100)
                || isSet && sets.size() >= 400
                || isMacro && macros.size() >= 12
                || isStatement && statements.size() >= 400 ? DEEP : 0;
    }

    private boolean isTold(String name) {
        return labels.containsKey(name) || sets.containsKey(name);
    }

    private boolean areSet(String e) {
        Matcher tokens = TOKEN.matcher(e);
        while (tokens.find()) {
            String token = tokens.group();
            if (token.equals(".") || token.matches(A_NAME) && !sets.containsKey(token)) {
                return false;
            }
        }
        return true;
    }

    private void keep(Statement s, String operands, int depth) {
        boolean isCall = s.operation != null && macros.containsKey(s.operation);
        boolean isSet = ".set".equals(s.operation);
        if (isSet) {
            String[] both = operands.split(",");
            sets.put(both[0].trim(), value(both[1], 0));
        }
        if (s.label != null) {
            labels.put(s.label, s);
        }
        if (s.operation != null && !isCall && !isSet) {
            readOperands(s, operands);
        }
        if (s.label != null || s.operation != null && !isCall && !isSet) {
            statements.add(s);
        }
        if (isCall) {
            call(macros.get(s.operation), operands, s.line, depth);
            s.operation = null;
        }
        if (isSet) {
            s.operation = null;
        }
    }

    private void readOperands(Statement s, String operands) {
        String[] all = operands.split(",");
        if (List.of("li", "add", "sub", "bz", "lw").contains(s.operation)) {
            s.register = all[0].trim().charAt(1) - '0';
        }
        if (s.operation.equals("add") || s.operation.equals("sub")) {
            s.second = all[1].trim().charAt(1) - '0';
        } else if (s.operation.equals(".word")) {
            s.values = all;
        } else if (s.operation.equals(".space")) {
            s.size = value(operands, 0);
        } else if (!s.operation.equals("nop") && !s.operation.equals(".pool")) {
            s.values = new String[] {all[all.length - 1].replace("=", "")};
        }
    }

    private void call(List<String> lines, String operands, int line, int depth) {
        calls++;
        int number = calls;
        String[] all = operands.split(",", -1);
        for (String raw : lines) {
            StringBuilder made = new StringBuilder();
            for (int i = 0; i < raw.length(); i++) {
                String two = raw.substring(i, Math.min(i + 2, raw.length()));
                if (two.equals("&n")) {
                    made.append(number);
                    i++;
                } else if (two.matches("&[0-3]")) {
                    int k = two.charAt(1) - '0';
                    made.append(k < all.length ? all[k].trim() : "");
                    i++;
                } else {
                    made.append(raw.charAt(i));
                }
            }
            look(made.toString(), line, depth + 1);
        }
    }

    private void turnTwo() {
        boolean hasGrown = true;
        while (hasGrown) {
            rounds++;
            layOut();
            hasGrown = false;
            List<Statement> grown = new ArrayList<>();
            for (Statement s : statements) {
                if (bits(s) > 0 && !s.isLong && !fitsShort(s)) {
                    grown.add(s);
                }
            }
            for (Statement s : grown) {
                s.isLong = true;
                hasGrown = true;
            }
        }
        if (words > 65535) {
            tell(RANGE, 0);
            return;
        }
        for (Statement s : statements) {
            for (String e : s.values) {
                if (!areKnown(e)) {
                    tell(NAME, s.line);
                } else if (!fits(s, value(e, s.place))) {
                    tell(RANGE, s.line);
                }
            }
        }
    }

    private void layOut() {
        words = 0;
        List<Statement> waiting = new ArrayList<>();
        for (Statement s : statements) {
            s.place = words;
            if (s.operation == null) {
                s.size = 0;
            } else if (s.operation.equals(".word")) {
                s.size = s.values.length;
            } else if (s.operation.equals(".pool")) {
                s.size = waiting.size();
                placeLiterals(waiting, s.place);
            } else if (!s.operation.equals(".space")) {
                s.size = s.isLong ? 2 : 1;
            }
            if ("lw".equals(s.operation)) {
                waiting.add(s);
            }
            words += s.size;
        }
        int end = words;
        words += waiting.size();
        placeLiterals(waiting, end);
    }

    private static void placeLiterals(List<Statement> waiting, int from) {
        for (int i = 0; i < waiting.size(); i++) {
            waiting.get(i).literal = from + i;
        }
        waiting.clear();
    }

    private static int bits(Statement s) {
        return "li".equals(s.operation) ? 9 : "b".equals(s.operation) ? 6 : "bz".equals(s.operation) ? 5 : 0;
    }

    private int shortValue(Statement s) {
        int e = value(s.values[0], s.place);
        return s.operation.equals("li") ? e : e - s.place - 1;
    }

    private boolean fitsShort(Statement s) {
        int half = 1 << bits(s) - 1;
        return shortValue(s) >= -half && shortValue(s) < half;
    }

    private static boolean fits(Statement s, int value) {
        boolean isBranch = s.operation.startsWith("b");
        if (bits(s) > 0 && !s.isLong) {
            return true;
        }
        if (s.operation.equals("lw") && s.literal - s.place - 1 > 63) {
            return false;
        }
        return value >= (isBranch ? 0 : -32768) && value <= 65535;
    }

    private boolean areKnown(String e) {
        Matcher tokens = TOKEN.matcher(e);
        while (tokens.find()) {
            if (tokens.group().matches(A_NAME) && !isTold(tokens.group())) {
                return false;
            }
        }
        return true;
    }

    private int value(String e, int place) {
        Matcher tokens = TOKEN.matcher(e);
        int sum = 0;
        int sign = 1;
        while (tokens.find()) {
            String token = tokens.group();
            if (token.equals("+") || token.equals("-")) {
                sign = token.equals("+") ? 1 : -1;
            } else {
                sum += sign * term(token, place);
            }
        }
        return sum;
    }

    private int term(String token, int place) {
        if (token.equals(".")) {
            return place;
        }
        if (token.startsWith("0x")) {
            return Integer.parseUnsignedInt(token.substring(2), 16);
        }
        if (Character.isDigit(token.charAt(0))) {
            return Integer.parseInt(token);
        }
        return labels.containsKey(token) ? labels.get(token).place : sets.getOrDefault(token, 0);
    }

    int labelValue(int k) {
        return new ArrayList<>(labels.values()).get(k).place;
    }

    int setValue(int k) {
        return new ArrayList<>(sets.values()).get(k);
    }

    /** What count answers to 0 .. 9, behind assemble(). */
    int[] counts() {
        if (!errors.isEmpty()) {
            return new int[] {0, 0, 0, 0, 0, 0, 0, 0, errors.size(), 0};
        }
        int longOnes = 0;
        for (Statement s : statements) {
            longOnes += s.isLong ? 1 : 0;
        }
        return new int[] {0, words, statements.size(), labels.size(), sets.size(), macros.size(), calls, rounds, 0, longOnes};
    }

    int[] allWords() {
        int[] all = new int[words];
        for (Statement s : statements) {
            if (s.operation == null || s.operation.equals(".pool") || s.operation.equals(".space")) {
                continue;
            }
            if (s.operation.equals(".word")) {
                for (int i = 0; i < s.size; i++) {
                    all[s.place + i] = value(s.values[i], s.place) & 0xffff;
                }
                continue;
            }
            all[s.place] = firstWord(s);
            if (s.isLong || s.operation.equals("lw")) {
                all[s.isLong ? s.place + 1 : s.literal] = value(s.values[0], s.place) & 0xffff;
            }
        }
        return all;
    }

    private int firstWord(Statement s) {
        int r = s.register << 9;
        switch (s.operation) {
            case "li":
                return s.isLong ? 0x2000 | r : 0x1000 | r | shortValue(s) & 0x1ff;
            case "add":
                return 0x3000 | r | s.second << 6;
            case "sub":
                return 0x4000 | r | s.second << 6;
            case "b":
                return s.isLong ? 0x6000 : 0x5000 | shortValue(s) & 0x3f;
            case "bz":
                return s.isLong ? 0x8000 | r : 0x7000 | r | shortValue(s) & 0x1f;
            case "lw":
                return 0x9000 | r | s.literal - s.place - 1;
            default:
                return 0;
        }
    }
}
