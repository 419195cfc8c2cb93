import java.util.Arrays;

/** An assembler of lines for words of 16 bits. */
public final class AssembleLines {
    public static final int NONE = -1;

    private static final int FORM = 1;
    private static final int UNKNOWN = 2;
    private static final int TWICE = 3;
    private static final int NAME = 4;
    private static final int RANGE = 5;
    private static final int DEEP = 6;

    private static final int MOST_BYTES = 4096;
    private static final int FED_BYTES = 16;
    private static final int MOST_STATEMENTS = 400;
    private static final int MOST_SETS = 400;
    private static final int MOST_VALUES = 8;
    private static final int MOST_SPACE = 1000;
    private static final int MOST_WORDS = 65535;
    private static final int LOWEST_WORD = -32768;
    private static final int HIGHEST_WORD = 65535;
    private static final int MOST_ROUNDS = MOST_STATEMENTS + 1;
    // No text of 4096 bytes comes to so many lines, with a hundred calls and all.
    private static final int MOST_LINES = 1000000;

    private final byte[] text = new byte[MOST_BYTES];
    private int length;
    private final Errors errors = new Errors();
    private final Program program = new Program(errors);
    private final TurnOne turnOne = new TurnOne(program, errors);

    public AssembleLines() {
    }

    public int feed(int a, int b, int c, int d) throws IllegalStateException {
        if (length + FED_BYTES > MOST_BYTES) {
            throw new IllegalStateException("the text has no room for sixteen bytes more");
        }
        append(a);
        append(b);
        append(c);
        append(d);
        return length;
    }

    public int end(int n) throws IllegalArgumentException, IllegalStateException {
        if (n < 0 || n > FED_BYTES) {
            throw new IllegalArgumentException("n is not from 0 to 16");
        }
        if (length < FED_BYTES) {
            throw new IllegalStateException("the text has less than sixteen bytes");
        }
        length -= FED_BYTES - n;
        return length;
    }

    public int assemble() throws IllegalArgumentException {
        forgetProgram();
        errors.forget();
        turnOne.run(text, length);
        length = 0;
        if (errors.told == 0) {
            program.runTurnTwo();
        }
        if (errors.told > 0) {
            forgetProgram();
            throw new IllegalArgumentException("the text has errors");
        }
        return program.words;
    }

    public int error(int k, int what) throws IndexOutOfBoundsException {
        if (k < 0 || k >= errors.told || what < 0 || what > 1) {
            throw new IndexOutOfBoundsException("no such error, or no such what");
        }
        return what == 0 ? errors.numbers[k] : errors.lines[k];
    }

    public int word(int i) throws IndexOutOfBoundsException {
        if (i < 0 || i >= program.words) {
            throw new IndexOutOfBoundsException("no such word");
        }
        return program.wordAt(i);
    }

    public int statement(int k, int what) throws IndexOutOfBoundsException {
        if (k < 0 || k >= program.kept || what < 0 || what > 3) {
            throw new IndexOutOfBoundsException("no such statement, or no such what");
        }
        return program.statements[k].tell(what);
    }

    public int name(int k, int what) throws IndexOutOfBoundsException {
        Names names = program.names;
        boolean isLabel = what == 0 && k < names.labels;
        boolean isSet = what == 1 && k < names.sets;
        if (k < 0 || !isLabel && !isSet) {
            throw new IndexOutOfBoundsException("no such name, or no such what");
        }
        return isLabel ? names.labelValue(k) : names.setValue(k);
    }

    public int count(int what) {
        switch (what) {
            case 0:
                return length;
            case 1:
                return program.words;
            case 2:
                return program.kept;
            case 3:
                return program.names.labels;
            case 4:
                return program.names.sets;
            case 5:
                return turnOne.macros.told;
            case 6:
                return turnOne.lines.told;
            case 7:
                return program.rounds;
            case 8:
                return errors.told;
            case 9:
                return program.longOnes();
            default:
                return NONE;
        }
    }

    private void append(int four) {
        for (int shift = 24; shift >= 0 && length < MOST_BYTES; shift -= 8) {
            text[length] = (byte) (four >> shift);
            length++;
        }
    }

    private void forgetProgram() {
        program.forget();
        turnOne.forget();
    }

    /** What a line can do: how it is spelled, its short form's code and e's bits, how many expressions it has at most. */
    private enum Operation {
        NOTHING("", false, 0, 0, 0),
        UNHEARD("", false, 0, 0, 0),
        LABEL("", false, 0, 0, 0),
        CALL("", false, 0, 0, 0),
        NOP("nop", true, 0, 0, 0),
        LI("li", true, 1, 9, 1),
        ADD("add", true, 3, 0, 0),
        SUB("sub", true, 4, 0, 0),
        B("b", true, 5, 6, 1),
        BZ("bz", true, 7, 5, 1),
        LW("lw", true, 9, 0, 1),
        WORD(".word", true, 0, 0, MOST_VALUES),
        SPACE(".space", true, 0, 0, 1),
        POOL(".pool", true, 0, 0, 0),
        SET(".set", false, 0, 0, 1),
        MACRO(".macro", false, 0, 0, 0),
        END(".end", false, 0, 0, 0);

        private static final Operation[] ALL = values();

        final String spelling;
        final boolean isStatement;
        final int code;
        final int bits;
        final int most;

        Operation(String spelling, boolean isStatement, int code, int bits, int most) {
            this.spelling = spelling;
            this.isStatement = isStatement;
            this.code = code;
            this.bits = bits;
            this.most = most;
        }

        /** The operation of the scanner's latest word; UNHEARD, if it is none. */
        static Operation spelledBy(Scanner scanner) {
            for (int i = 0; i < ALL.length; i++) {
                if (!ALL[i].spelling.isEmpty() && scanner.spells(ALL[i].spelling)) {
                    return ALL[i];
                }
            }
            return UNHEARD;
        }
    }

    /** Reads one line from left to right, up to a ; or its end. */
    private static final class Scanner {
        private static final int MOST_NAME = 10;
        private static final int MOST_DIGITS = 9;
        private static final int MOST_HEX_DIGITS = 8;
        // Names are packed into a number with this base, so that they are compared without texts.
        private static final int BASE = 38;
        private static final int PACKED_DIGIT = 27;
        private static final int PACKED_LINE = 37;
        // r0, packed; r1 to r7 are the numbers behind it.
        private static final long PACKED_R0 = 18 * BASE + PACKED_DIGIT;

        private byte[] bytes = new byte[0];
        private int at;
        private int to;
        int wordFrom;
        int wordTo;
        // The latest word, packed; 0, if it is no name.
        long packedWord;

        void start(byte[] source, int from, int limit) {
            bytes = source;
            at = from;
            to = from;
            while (to < limit && to < source.length && source[to] != ';') {
                to++;
            }
        }

        boolean isPlain() {
            for (int i = at; i < to; i++) {
                if (bytes[i] < 32 || bytes[i] > 126) {
                    return false;
                }
            }
            return true;
        }

        int left() {
            return to - at;
        }

        void passBlanks() {
            while (at < to && bytes[at] == ' ') {
                at++;
            }
        }

        boolean isAtEnd() {
            passBlanks();
            return at >= to;
        }

        boolean takes(char sign) {
            passBlanks();
            if (at >= to || bytes[at] != sign) {
                return false;
            }
            at++;
            return true;
        }

        /** 1 for +, -1 for -, 0 for neither. */
        int readSign() {
            if (takes('+')) {
                return 1;
            }
            return takes('-') ? -1 : 0;
        }

        /** The name that stands here, packed; 0, if there is none, or one that is too long. */
        long readName() {
            wordFrom = at;
            long packed = 0;
            while (at < to) {
                int digit = packedDigit(bytes[at], at > wordFrom);
                if (digit == 0) {
                    break;
                }
                packed = packed * BASE + digit;
                at++;
            }
            wordTo = at;
            packedWord = wordTo - wordFrom <= MOST_NAME ? packed : 0;
            return packedWord;
        }

        private static int packedDigit(byte letter, boolean isBehind) {
            if (letter >= 'a' && letter <= 'z') {
                return letter - 'a' + 1;
            }
            if (letter == '_') {
                return PACKED_LINE;
            }
            return isBehind && letter >= '0' && letter <= '9' ? letter - '0' + PACKED_DIGIT : 0;
        }

        /** The number of a register that is packed; NONE, if the name is another's. */
        static int registerOf(long packed) {
            return packed >= PACKED_R0 && packed < PACKED_R0 + 8 ? (int) (packed - PACKED_R0) : NONE;
        }

        /** The name of a label, packed; 0, if none stands here; NONE, if one does that is no name. */
        long readLabel() {
            passBlanks();
            int from = at;
            long packed = readName();
            if (at >= to || bytes[at] != ':') {
                at = from;
                return 0;
            }
            at++;
            return packed == 0 ? NONE : packed;
        }

        /** Whether an operation stands here, which is the latest word then. */
        boolean readOperation() {
            passBlanks();
            boolean isRight = at < to && bytes[at] == '.' ? readDotted() : readName() != 0;
            return isRight && (at >= to || bytes[at] == ' ');
        }

        private boolean readDotted() {
            wordFrom = at;
            at++;
            while (at < to && bytes[at] >= 'a' && bytes[at] <= 'z') {
                at++;
            }
            wordTo = at;
            packedWord = 0;
            return wordTo - wordFrom > 1;
        }

        /** Makes what stands here up to a comma or the end the latest word, without the blanks round it. */
        void readOperand() {
            passBlanks();
            wordFrom = at;
            wordTo = at;
            while (at < to && bytes[at] != ',') {
                at++;
                if (bytes[at - 1] != ' ') {
                    wordTo = at;
                }
            }
        }

        /** The number that stands here; NONE, if there is none, or one with too many digits. */
        long readNumber() {
            boolean isHex = at + 1 < to && bytes[at] == '0' && bytes[at + 1] == 'x';
            int base = isHex ? 16 : 10;
            if (isHex) {
                at += 2;
            }
            int from = at;
            long number = 0;
            while (at < to) {
                int digit = digitOf(bytes[at]);
                if (digit < 0 || digit >= base) {
                    break;
                }
                number = number * base + digit;
                at++;
            }
            int digits = at - from;
            return digits == 0 || digits > (isHex ? MOST_HEX_DIGITS : MOST_DIGITS) ? NONE : number;
        }

        private static int digitOf(byte letter) {
            if (letter >= '0' && letter <= '9') {
                return letter - '0';
            }
            return letter >= 'a' && letter <= 'f' ? letter - 'a' + 10 : NONE;
        }

        boolean spells(String spelling) {
            if (wordTo - wordFrom != spelling.length() || wordTo > bytes.length) {
                return false;
            }
            for (int i = 0; i < spelling.length(); i++) {
                if (bytes[wordFrom + i] != spelling.charAt(i)) {
                    return false;
                }
            }
            return true;
        }
    }

    /** Labels and set names with their values: the labels' numbers come first, the set names' behind all of them. */
    private static final class Names {
        private static final int MOST = MOST_STATEMENTS + MOST_SETS;
        private static final int CHAINS = 1021;

        private final int[] heads = new int[CHAINS];
        private final int[] nexts = new int[MOST];
        private final long[] packedNames = new long[MOST];
        private final int[] values = new int[MOST];
        int labels;
        int sets;

        Names() {
            forget();
        }

        void forget() {
            Arrays.fill(heads, NONE);
            labels = 0;
            sets = 0;
        }

        /** The number of a packed name, NONE if it is not there. */
        int find(long packed) {
            int id = packed > 0 ? heads[(int) (packed % CHAINS)] : NONE;
            for (int steps = 0; id >= 0 && steps < MOST; steps++) {
                if (packedNames[id] == packed) {
                    return id;
                }
                id = nexts[id];
            }
            return NONE;
        }

        boolean isSet(int id) {
            return id >= MOST_STATEMENTS;
        }

        boolean isFull() {
            return sets >= MOST_SETS;
        }

        /** Takes a label and answers its number; its place is told later. */
        int addLabel(long packed) {
            if (labels >= MOST_STATEMENTS) {
                return NONE;
            }
            labels++;
            join(labels - 1, packed);
            return labels - 1;
        }

        void addSet(long packed, int value) {
            if (sets < MOST_SETS) {
                join(MOST_STATEMENTS + sets, packed);
                values[MOST_STATEMENTS + sets] = value;
                sets++;
            }
        }

        void place(int label, int value) {
            if (label >= 0 && label < labels) {
                values[label] = value;
            }
        }

        int value(int id) {
            return id >= 0 && id < MOST ? values[id] : 0;
        }

        int labelValue(int k) {
            return value(k);
        }

        int setValue(int k) {
            return value(MOST_STATEMENTS + k);
        }

        private void join(int id, long packed) {
            int chain = (int) (Math.max(packed, 0) % CHAINS);
            packedNames[id] = packed;
            values[id] = 0;
            nexts[id] = heads[chain];
            heads[chain] = id;
        }
    }

    /** Expressions of statements: each one's sum of numbers, how many . it has, and the names that are not set yet. */
    private static final class Expressions {
        private static final int MOST = (MOST_STATEMENTS + 1) * MOST_VALUES;
        // Only a line that is too long to be a statement can come to more, so they are never missed.
        private static final int MOST_TERMS = 32768;

        private final Names names;
        private final int[] constants = new int[MOST];
        private final int[] dots = new int[MOST];
        private final int[] firsts = new int[MOST + 1];
        // Packed names, with the sign of their term; behind resolve() their numbers and 1, or 0 for an unknown one.
        private long[] terms = new long[256];
        int held;
        private int heldTerms;
        // Whether the latest expression has no . and only names that are set.
        boolean isSettled;

        Expressions(Names names) {
            this.names = names;
        }

        /** Leaves only the first ones. */
        void cut(int mark) {
            if (mark >= 0 && mark <= held) {
                held = mark;
                heldTerms = firsts[mark];
            }
        }

        /** Whether an expression stands here, which is kept then. */
        boolean read(Scanner scanner) {
            if (held >= MOST) {
                return false;
            }
            constants[held] = 0;
            dots[held] = 0;
            isSettled = true;
            int sign = scanner.readSign();
            boolean isRight = readTerm(scanner, sign == 0 ? 1 : sign);
            for (int left = scanner.left(); isRight && left > 0; left--) {
                sign = scanner.readSign();
                if (sign == 0) {
                    break;
                }
                isRight = readTerm(scanner, sign);
            }
            held++;
            firsts[held] = heldTerms;
            return isRight;
        }

        private boolean readTerm(Scanner scanner, int sign) {
            if (scanner.takes('.')) {
                dots[held] += sign;
                isSettled = false;
                return true;
            }
            long packed = scanner.readName();
            if (packed != 0) {
                addName(packed, sign);
                return true;
            }
            long number = scanner.readNumber();
            constants[held] += sign * (int) number;
            return number >= 0;
        }

        private void addName(long packed, int sign) {
            int id = names.find(packed);
            if (names.isSet(id)) {
                constants[held] += sign * names.value(id);
                return;
            }
            isSettled = false;
            if (heldTerms == terms.length && heldTerms < MOST_TERMS) {
                terms = Arrays.copyOf(terms, 2 * terms.length);
            }
            if (heldTerms < terms.length) {
                terms[heldTerms] = sign * packed;
                heldTerms++;
            }
        }

        int constant(int e) {
            return e >= 0 && e < held ? constants[e] : 0;
        }

        /** Turns names into their numbers, which saves finding them in each round. */
        void resolve() {
            for (int i = 0; i < heldTerms; i++) {
                long packed = Math.abs(terms[i]);
                int id = names.find(packed);
                terms[i] = terms[i] < 0 ? -(id + 1) : id + 1;
            }
        }

        boolean isKnown(int e) {
            for (int i = firstTerm(e); i < lastTerm(e); i++) {
                if (terms[i] == 0) {
                    return false;
                }
            }
            return true;
        }

        int value(int e, int place) {
            if (e < 0 || e >= held) {
                return 0;
            }
            int sum = constants[e] + dots[e] * place;
            for (int i = firstTerm(e); i < lastTerm(e); i++) {
                int term = (int) terms[i];
                if (term > 0) {
                    sum += names.value(term - 1);
                } else if (term < 0) {
                    sum -= names.value(-term - 1);
                }
            }
            return sum;
        }

        private int firstTerm(int e) {
            return e >= 0 && e < held ? firsts[e] : 0;
        }

        private int lastTerm(int e) {
            return e >= 0 && e < held ? firsts[e + 1] : 0;
        }
    }

    /** One statement: what turn one read, and what the rounds made of it. */
    private static final class Statement {
        Operation operation = Operation.NOTHING;
        int line;
        int label;
        int register;
        int second;
        int firstValue;
        int values;
        int size;
        int place;
        int literalPlace;
        boolean isLong;

        void clear(int newLine, int newFirstValue) {
            operation = Operation.NOTHING;
            line = newLine;
            label = NONE;
            register = 0;
            second = 0;
            firstValue = newFirstValue;
            values = 0;
            size = 0;
            place = 0;
            literalPlace = NONE;
            isLong = false;
        }

        boolean holds(int i) {
            return operation != Operation.POOL && i >= place && i < place + size;
        }

        int tell(int what) {
            switch (what) {
                case 0:
                    return line;
                case 1:
                    return place;
                case 2:
                    return size;
                default:
                    return isLong ? 1 : 0;
            }
        }
    }

    /** Errors in the order in which they are told. */
    private static final class Errors {
        private static final int MOST = 50;

        final int[] numbers = new int[MOST];
        final int[] lines = new int[MOST];
        int told;

        void forget() {
            told = 0;
        }

        void tell(int number, int line) {
            if (told < MOST) {
                numbers[told] = number;
                lines[told] = line;
                told++;
            }
        }
    }

    /** Macros: a body is told by where it stands in the text, as it is looked at only when it is called. */
    private static final class Macros {
        private static final int MOST = 12;

        private final long[] packedNames = new long[MOST];
        private final int[] froms = new int[MOST];
        private final int[] tos = new int[MOST];
        int told;

        void forget() {
            told = 0;
        }

        boolean isFull() {
            return told >= MOST;
        }

        int find(long packed) {
            for (int i = 0; i < told; i++) {
                if (packedNames[i] == packed) {
                    return i;
                }
            }
            return NONE;
        }

        void open(long packed, int from) {
            if (told < MOST) {
                packedNames[told] = packed;
                froms[told] = from;
                tos[told] = from;
                told++;
            }
        }

        void close(int to) {
            if (told > 0) {
                tos[told - 1] = to;
            }
        }

        int from(int macro) {
            return macro >= 0 && macro < told ? froms[macro] : 0;
        }

        int to(int macro) {
            return macro >= 0 && macro < told ? tos[macro] : 0;
        }
    }

    /** One call that is open: its operands, its number and what is left of its body. */
    private static final class Call {
        private static final int MOST_OPERANDS = 4;

        // A line that is put together is overwritten by the next one, so a call in it keeps its own.
        private final byte[] kept = new byte[Lines.MOST_MADE];
        byte[] source = kept;
        final int[] froms = new int[MOST_OPERANDS];
        final int[] tos = new int[MOST_OPERANDS];
        int number;
        int next;
        int until;

        boolean readOperands(Scanner scanner) {
            Arrays.fill(froms, 0);
            Arrays.fill(tos, 0);
            if (scanner.isAtEnd()) {
                return true;
            }
            for (int i = 0; i < MOST_OPERANDS; i++) {
                scanner.readOperand();
                froms[i] = scanner.wordFrom;
                tos[i] = scanner.wordTo;
                if (!scanner.takes(',')) {
                    return true;
                }
            }
            return false;
        }

        void begin(int newNumber, int from, int to) {
            number = newNumber;
            next = from;
            until = to;
        }

        void readFrom(byte[] text) {
            source = text;
        }

        void keep(byte[] made, int length) {
            int bytes = Math.min(Math.min(length, kept.length), made.length);
            System.arraycopy(made, 0, kept, 0, Math.max(bytes, 0));
            source = kept;
        }

        boolean isDone() {
            return next >= until;
        }
    }

    /** The lines in the order in which they are looked at: the text's, and behind a call those of its body. */
    private static final class Lines {
        static final int MOST_MADE = 100;
        private static final int MOST_DEEP = 6;
        private static final int MOST_CALLS = 100;
        // More than 1020 times an operand of 2039 bytes, which is all that a text has room for.
        private static final int MOST_ROOM = 1 << 21;

        // The one behind the deepest holds the operands of a call that is too deep.
        private final Call[] calls = new Call[MOST_DEEP + 1];
        private int depth;
        private byte[] text = new byte[0];
        private int length;
        private byte[] made = new byte[256];
        byte[] bytes = text;
        int from;
        int to;
        int next;
        int number;
        int told;

        Lines() {
            for (int i = 0; i < calls.length; i++) {
                calls[i] = new Call();
            }
        }

        void start(byte[] newText, int newLength) {
            text = newText;
            length = Math.min(newLength, newText.length);
            next = 0;
            number = 0;
            depth = 0;
            told = 0;
        }

        void forget() {
            told = 0;
        }

        /** Goes to the next line; false, if there is none. */
        boolean advance() {
            while (depth > 0 && calls[depth - 1].isDone()) {
                depth--;
            }
            if (depth > 0) {
                putTogether(calls[depth - 1]);
                return true;
            }
            if (next >= length) {
                return false;
            }
            bytes = text;
            from = next;
            to = lineEnd(from, length);
            next = to + 1;
            number++;
            return true;
        }

        private int lineEnd(int start, int limit) {
            int i = start;
            while (i < limit && i < text.length && text[i] != '\n') {
                i++;
            }
            return i;
        }

        private void putTogether(Call call) {
            int stop = lineEnd(call.next, call.until);
            putLine(call, stop);
            if (to > made.length) {
                made = new byte[roomFor(to)];
                putLine(call, stop);
            }
            to = Math.min(to, made.length);
            call.next = stop + 1;
            bytes = made;
        }

        /** Doubled, so that a line that is a little longer finds room, too. */
        private int roomFor(int wanted) {
            int room = made.length;
            while (room < wanted && room < MOST_ROOM) {
                room *= 2;
            }
            return room;
        }

        private void putLine(Call call, int stop) {
            from = 0;
            to = 0;
            int i = call.next;
            while (i < stop) {
                int behind = i + 1 < stop ? text[i + 1] : NONE;
                boolean isOperand = text[i] == '&' && behind >= '0' && behind <= '3';
                boolean isNumber = text[i] == '&' && behind == 'n';
                if (isOperand) {
                    putOperand(call, behind - '0');
                } else if (isNumber) {
                    putNumber(call.number);
                } else {
                    put(text[i]);
                }
                i += isOperand || isNumber ? 2 : 1;
            }
        }

        private void putOperand(Call call, int k) {
            int stop = Math.min(call.tos[k], call.source.length);
            for (int i = call.froms[k]; i < stop; i++) {
                put(call.source[i]);
            }
        }

        private void putNumber(int digits) {
            for (int unit = 100; unit > 0; unit /= 10) {
                if (digits >= unit) {
                    put((byte) ('0' + digits / unit % 10));
                }
            }
        }

        /** Counts a byte even if it finds no room, so that the room that is wanted is known. */
        private void put(byte letter) {
            if (to < made.length) {
                made[to] = letter;
            }
            to++;
        }

        boolean isMade() {
            return depth > 0;
        }

        boolean isTooLong() {
            return depth > 0 && to - from > MOST_MADE;
        }

        boolean isFull() {
            return depth >= MOST_DEEP || told >= MOST_CALLS;
        }

        boolean readOperands(Scanner scanner) {
            return depth < calls.length && calls[depth].readOperands(scanner);
        }

        /** Opens the call whose operands were read last. */
        void enter(int bodyFrom, int bodyTo) {
            if (isFull()) {
                return;
            }
            Call call = calls[depth];
            if (depth > 0) {
                call.keep(made, to);
            } else {
                call.readFrom(text);
            }
            told++;
            depth++;
            call.begin(told, bodyFrom, bodyTo);
        }
    }

    /** Turn one: line by line, what stands there, or what is wrong with it. */
    private static final class TurnOne {
        private final Program program;
        private final Names names;
        private final Expressions expressions;
        private final Errors errors;
        private final Scanner scanner = new Scanner();
        final Macros macros = new Macros();
        final Lines lines = new Lines();
        private Statement draft;
        private Operation operation = Operation.NOTHING;
        private long label;
        // The name that .set or .macro tells.
        private long toldName;
        private int macro;
        private int mark;
        // Lines are passed over up to .end; a right .macro's are its body.
        private boolean isPassing;
        private boolean isBody;
        private int macroLine;

        TurnOne(Program program, Errors errors) {
            this.program = program;
            this.names = program.names;
            this.expressions = program.expressions;
            this.errors = errors;
            this.draft = program.draft();
        }

        void forget() {
            macros.forget();
            lines.forget();
        }

        void run(byte[] text, int length) {
            lines.start(text, length);
            isPassing = false;
            for (int i = 0; i < MOST_LINES && lines.advance(); i++) {
                scanner.start(lines.bytes, lines.from, lines.to);
                if (isPassing) {
                    passLine();
                    continue;
                }
                int error = look();
                if (error == 0) {
                    accept();
                } else {
                    refuse(error);
                }
            }
            // A wrong .macro has told its error already.
            if (isPassing && isBody) {
                errors.tell(FORM, macroLine);
            }
        }

        private void passLine() {
            boolean isEnd = scanner.isPlain() && scanner.readLabel() != NONE && scanner.readOperation()
                    && Operation.spelledBy(scanner) == Operation.END;
            if (isEnd && isBody) {
                macros.close(lines.from);
            }
            isPassing = !isEnd;
        }

        /** The number of the line's error, 0 if it has none. */
        private int look() {
            operation = Operation.NOTHING;
            label = 0;
            toldName = 0;
            mark = expressions.held;
            draft = program.draft();
            draft.clear(lines.number, mark);
            if (!scanner.isPlain() || !readHead()) {
                return FORM;
            }
            if (operation == Operation.UNHEARD) {
                return UNKNOWN;
            }
            if (!readAhead() || !readValues() || !scanner.isAtEnd()) {
                return FORM;
            }
            if (isTwice()) {
                return TWICE;
            }
            if (wantsSetNames() && !expressions.isSettled) {
                return NAME;
            }
            if (operation == Operation.SPACE && !isSpace(expressions.constant(mark))) {
                return RANGE;
            }
            return isTooMuch() ? DEEP : 0;
        }

        /** Reads label and operation; false, if what stands there is neither. */
        private boolean readHead() {
            label = scanner.readLabel();
            if (label == NONE || Scanner.registerOf(label) != NONE) {
                return false;
            }
            if (scanner.isAtEnd()) {
                return true;
            }
            if (!scanner.readOperation()) {
                return false;
            }
            operation = Operation.spelledBy(scanner);
            macro = macros.find(scanner.packedWord);
            if (operation == Operation.UNHEARD && macro != NONE) {
                operation = Operation.CALL;
            }
            return true;
        }

        /** Reads the operands that stand ahead of the expressions. */
        private boolean readAhead() {
            switch (operation) {
                case LI:
                case BZ:
                    return readRegister() && scanner.takes(',');
                case LW:
                    return readRegister() && scanner.takes(',') && scanner.takes('=');
                case ADD:
                case SUB:
                    return readRegister() && scanner.takes(',') && readSecond();
                case SET:
                    return readToldName() && Scanner.registerOf(toldName) == NONE && scanner.takes(',');
                case MACRO:
                    return label == 0 && !lines.isMade() && readToldName();
                case CALL:
                    return lines.readOperands(scanner);
                case END:
                    return false;
                default:
                    return true;
            }
        }

        private boolean readRegister() {
            scanner.passBlanks();
            draft.register = Scanner.registerOf(scanner.readName());
            return draft.register != NONE;
        }

        private boolean readSecond() {
            scanner.passBlanks();
            draft.second = Scanner.registerOf(scanner.readName());
            return draft.second != NONE;
        }

        private boolean readToldName() {
            scanner.passBlanks();
            toldName = scanner.readName();
            return toldName != 0;
        }

        /** Reads as many expressions as the operation may have, from one on. */
        private boolean readValues() {
            for (int i = 0; i < operation.most; i++) {
                if (!expressions.read(scanner)) {
                    return false;
                }
                draft.values++;
                if (!scanner.takes(',')) {
                    return true;
                }
            }
            return operation.most == 0;
        }

        private boolean isTwice() {
            if (label != 0 && names.find(label) != NONE) {
                return true;
            }
            if (operation == Operation.SET) {
                return toldName == label || names.find(toldName) != NONE;
            }
            // The name is still the scanner's latest word.
            return operation == Operation.MACRO
                    && (macros.find(toldName) != NONE || Operation.spelledBy(scanner) != Operation.UNHEARD);
        }

        private boolean wantsSetNames() {
            return operation == Operation.SET || operation == Operation.SPACE;
        }

        private static boolean isSpace(int words) {
            return words >= 0 && words <= MOST_SPACE;
        }

        private boolean isTooMuch() {
            return lines.isTooLong()
                    || operation == Operation.CALL && lines.isFull()
                    || operation == Operation.SET && names.isFull()
                    || operation == Operation.MACRO && macros.isFull()
                    || isStatement() && program.isFull();
        }

        private boolean isStatement() {
            return label != 0 || operation.isStatement;
        }

        private void accept() {
            int value = expressions.constant(mark);
            if (wantsSetNames()) {
                expressions.cut(mark);
                draft.values = 0;
            }
            if (operation == Operation.SET) {
                names.addSet(toldName, value);
            }
            if (operation == Operation.SPACE) {
                draft.size = value;
            }
            if (operation == Operation.MACRO) {
                macros.open(toldName, lines.next);
                pass(true);
            }
            if (operation == Operation.CALL) {
                lines.enter(macros.from(macro), macros.to(macro));
            }
            if (isStatement()) {
                draft.operation = operation.isStatement ? operation : Operation.LABEL;
                draft.label = label == 0 ? NONE : names.addLabel(label);
                program.keepDraft();
            }
        }

        private void refuse(int error) {
            errors.tell(error, lines.number);
            expressions.cut(mark);
            if (operation == Operation.MACRO) {
                pass(false);
            }
        }

        private void pass(boolean isRight) {
            isPassing = true;
            isBody = isRight;
            macroLine = lines.number;
        }
    }

    /** The statements, and turn two: their places, forms and words. */
    private static final class Program {
        private final Errors errors;
        final Names names = new Names();
        final Expressions expressions = new Expressions(names);
        // The one behind the last is only a draft.
        final Statement[] statements = new Statement[MOST_STATEMENTS + 1];
        int kept;
        int words;
        int rounds;

        Program(Errors errors) {
            this.errors = errors;
            for (int i = 0; i < statements.length; i++) {
                statements[i] = new Statement();
            }
        }

        void forget() {
            names.forget();
            expressions.cut(0);
            kept = 0;
            words = 0;
            rounds = 0;
        }

        Statement draft() {
            return statements[Math.min(kept, MOST_STATEMENTS)];
        }

        boolean isFull() {
            return kept >= MOST_STATEMENTS;
        }

        void keepDraft() {
            if (!isFull()) {
                kept++;
            }
        }

        void runTurnTwo() {
            expressions.resolve();
            boolean hasGrown = true;
            while (hasGrown && rounds < MOST_ROUNDS) {
                rounds++;
                layOut();
                hasGrown = grow();
            }
            if (words > MOST_WORDS) {
                errors.tell(RANGE, 0);
                return;
            }
            placeLiterals();
            check();
        }

        private void layOut() {
            int place = 0;
            int literals = 0;
            for (int k = 0; k < kept; k++) {
                Statement s = statements[k];
                s.place = place;
                s.size = sizeOf(s, literals);
                names.place(s.label, place);
                place += s.size;
                if (s.operation == Operation.LW) {
                    literals++;
                } else if (s.operation == Operation.POOL) {
                    literals = 0;
                }
            }
            words = place + literals;
        }

        private static int sizeOf(Statement s, int literals) {
            switch (s.operation) {
                case LABEL:
                    return 0;
                case WORD:
                    return s.values;
                case SPACE:
                    return s.size;
                case POOL:
                    return literals;
                default:
                    return s.isLong ? 2 : 1;
            }
        }

        /** Makes the short ones long that do not fit; whether there was one. */
        private boolean grow() {
            boolean hasGrown = false;
            for (int k = 0; k < kept; k++) {
                Statement s = statements[k];
                if (s.operation.bits > 0 && !s.isLong && !fitsShort(s)) {
                    s.isLong = true;
                    hasGrown = true;
                }
            }
            return hasGrown;
        }

        private boolean fitsShort(Statement s) {
            int bound = 1 << (s.operation.bits - 1);
            int value = shortValue(s);
            return value >= -bound && value < bound;
        }

        private int shortValue(Statement s) {
            int value = expressions.value(s.firstValue, s.place);
            return s.operation == Operation.LI ? value : value - (s.place + 1);
        }

        /** From the end on, as each pool's last literal is that of the last lw ahead of it. */
        private void placeLiterals() {
            int place = words;
            for (int k = kept - 1; k >= 0; k--) {
                Statement s = statements[k];
                if (s.operation == Operation.POOL) {
                    place = s.place + s.size;
                } else if (s.operation == Operation.LW) {
                    place--;
                    s.literalPlace = place;
                }
            }
        }

        private void check() {
            for (int k = 0; k < kept; k++) {
                Statement s = statements[k];
                for (int v = 0; v < s.values; v++) {
                    if (!expressions.isKnown(s.firstValue + v)) {
                        errors.tell(NAME, s.line);
                    } else if (!fits(s, expressions.value(s.firstValue + v, s.place))) {
                        errors.tell(RANGE, s.line);
                    }
                }
            }
        }

        private static boolean fits(Statement s, int value) {
            boolean isWord = value >= LOWEST_WORD && value <= HIGHEST_WORD;
            switch (s.operation) {
                case LI:
                    return !s.isLong || isWord;
                case B:
                case BZ:
                    return !s.isLong || isWord && value >= 0;
                case LW:
                    return isWord && distance(s) <= 63;
                default:
                    return isWord;
            }
        }

        private static int distance(Statement s) {
            return s.literalPlace - (s.place + 1);
        }

        int longOnes() {
            int found = 0;
            for (int k = 0; k < kept; k++) {
                found += statements[k].isLong ? 1 : 0;
            }
            return found;
        }

        int wordAt(int i) {
            for (int k = 0; k < kept; k++) {
                Statement s = statements[k];
                if (s.literalPlace == i) {
                    return valueWord(s, 0);
                }
                if (s.holds(i)) {
                    return encode(s, i - s.place);
                }
            }
            return 0;
        }

        private int encode(Statement s, int behind) {
            if (s.operation == Operation.SPACE) {
                return 0;
            }
            if (s.operation == Operation.WORD) {
                return valueWord(s, behind);
            }
            if (behind > 0) {
                return valueWord(s, 0);
            }
            int code = s.isLong ? s.operation.code + 1 : s.operation.code;
            return code << 12 | s.register << 9 | s.second << 6 | lowBits(s);
        }

        private int valueWord(Statement s, int v) {
            return expressions.value(s.firstValue + v, s.place) & 0xffff;
        }

        private int lowBits(Statement s) {
            if (s.operation == Operation.LW) {
                return distance(s);
            }
            return s.isLong || s.operation.bits == 0 ? 0 : shortValue(s) & ((1 << s.operation.bits) - 1);
        }
    }
}
