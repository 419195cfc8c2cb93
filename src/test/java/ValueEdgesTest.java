/** The edges of places, literals, forms and rounds, sentence by sentence and on both sides. */
final class ValueEdgesTest {
    public static void main(String[] args) {
        Check check = new Check();
        liOfNineBits(check);
        bOfSixBits(check);
        bzOfFiveBits(check);
        lwFrom0To63(check);
        wordsFromExpressions(check);
        longBranchesFrom0(check);
        placesFrom0(check);
        literalsInTheNextPool(check);
        poolWithoutLiterals(check);
        shortAtFirst(check);
        lastRound(check);
        longStaysLong(check);
        check.finish();
    }

    private static String space(int words) {
        StringBuilder text = new StringBuilder();
        for (int left = words; left > 0; left -= 1000) {
            text.append(".space ").append(Math.min(left, 1000)).append('\n');
        }
        return text.toString();
    }

    /** One instruction at a place, behind spaces: its words. */
    private static void at(Check check, int place, String line, int... due) {
        AssembleLines x = check.assembled(space(place) + line);
        check.same("words of " + line + " at " + place, x.count(1), place + due.length);
        for (int i = 0; i < due.length && place + i < x.count(1); i++) {
            check.same("word " + i + " of " + line + " at " + place, x.word(place + i), due[i]);
        }
        check.same("whether it is long", x.count(9), due.length - 1);
    }

    /** Li 1, e in nine bits with sign; long: 2, and a word e. */
    private static void liOfNineBits(Check check) {
        for (int e = -256; e <= 255; e++) {
            at(check, 0, "li r5, " + e, 0x1a00 | e & 0x1ff);
        }
        for (int e : new int[] {-32768, -32767, -512, -257, 256, 511, 512, 32767, 32768, 65279, 65280, 65534, 65535}) {
            at(check, 0, "li r5, " + e, 0x2a00, e & 0xffff);
        }
        check.errors("li r1, -32769\nli r1, 65536\nli r1, 0x7fffffff\nli r1, 0x80000000", 5, 1, 5, 2, 5, 3, 5, 4);
        // 32 bits are looked at, not the sixteen that fit.
        check.errors("li r1, 0x10000\nli r1, 0xffff0000", 5, 1, 5, 2);
        at(check, 0, "li r5, 0xffffff00", 0x1b00);
        at(check, 0, "li r5, 0xff00", 0x2a00, 0xff00);
    }

    /** B 5, e - (the place behind it) in six bits with sign; long: 6, and a word e. */
    private static void bOfSixBits(Check check) {
        for (int distance = -32; distance <= 31; distance++) {
            at(check, 100, "b " + (101 + distance), 0x5000 | distance & 63);
        }
        at(check, 100, "b 68", 0x6000, 68);
        at(check, 100, "b 133", 0x6000, 133);
        at(check, 0, "b 32", 0x501f);
        at(check, 0, "b 33", 0x6000, 33);
        at(check, 0, "b 65535", 0x6000, 65535);
        at(check, 65533, "b 65535", 0x5001);
        at(check, 65533, "b 0", 0x6000, 0);
        check.errors("b 65536\nb 0x7fffffff", 5, 1, 5, 2);
    }

    /** Bz 7, r, in five bits with sign likewise; long: 8, r, and a word e. */
    private static void bzOfFiveBits(Check check) {
        for (int distance = -16; distance <= 15; distance++) {
            at(check, 100, "bz r6, " + (101 + distance), 0x7c00 | distance & 31);
        }
        at(check, 100, "bz r6, 84", 0x8c00, 84);
        at(check, 100, "bz r6, 117", 0x8c00, 117);
        at(check, 0, "bz r6, 16", 0x7c0f);
        at(check, 0, "bz r6, 17", 0x8c00, 17);
        at(check, 0, "bz r6, 65535", 0x8c00, 65535);
        at(check, 65533, "bz r6, 0", 0x8c00, 0);
        check.errors("bz r6, 65536\nbz r6, 0x7fffffff", 5, 1, 5, 2);
    }

    /** Lw 9, r, literal's place - (the place behind it), 0 .. 63. */
    private static void lwFrom0To63(Check check) {
        for (int distance = 0; distance <= 63; distance++) {
            AssembleLines x = check.assembled("nop\nlw r3, = 7\n" + space(distance));
            check.same("lw of " + distance, x.word(1), 0x9600 | distance);
            check.same("its literal", x.word(2 + distance), 7);
            AssembleLines y = check.assembled("nop\nlw r3, = 7\n" + space(distance) + ".pool\n.space 100");
            check.same("lw of " + distance + " with a pool", y.word(1), 0x9600 | distance);
        }
        check.errors("nop\nlw r3, = 7\n.space 64", 5, 2);
        check.errors("nop\nlw r3, = 7\n.space 64\n.pool", 5, 2);
        check.errors("nop\nlw r3, = 7\n.space 1000", 5, 2);
        // In a pool with others the literals ahead count, but not those behind.
        check.right("lw r1, = 1\nlw r1, = 2\n.space 62");
        check.right("lw r1, = 1\n".repeat(64));
        check.errors("lw r1, = 1\n".repeat(65), fives(1, 65));
        check.errors("lw r1, = 1\nlw r1, = 2\n.space 63", 5, 1, 5, 2);
        check.errors("lw r1, = 1\n.space 1\nlw r1, = 2\n.space 62", 5, 1);
        check.errors("lw r1, = 1\nlw r1, = 2\n.pool\n" + "lw r1, = 1\n.space 64\n.pool\nlw r1, = 1", 5, 4);
        // Long ones between push it away.
        check.right("lw r1, = 1\nli r1, 255\n.space 62");
        check.errors("lw r1, = 1\nli r1, 256\n.space 62", 5, 1);
        check.right("lw r1, = 1\nli r1, 256\n.space 61");
    }

    /** RANGE in each of some lines, as many as are told. */
    private static int[] fives(int from, int to) {
        int[] due = new int[2 * Math.min(to - from + 1, 50)];
        for (int i = 0; i < due.length; i += 2) {
            due[i] = 5;
            due[i + 1] = from + i / 2;
        }
        return due;
    }

    /** Words from expressions are from -32768 to 65535. */
    private static void wordsFromExpressions(Check check) {
        for (int e : new int[] {-32768, -32767, -1, 0, 1, 32767, 32768, 65534, 65535}) {
            check.words(".word " + e, e & 0xffff);
            check.words("lw r0, = " + e, 0x9000, e & 0xffff);
            check.words(".word 1, " + e + ", 1", 1, e & 0xffff, 1);
        }
        for (String e : new String[] {"-32769", "65536", "-65536", "131071", "0x7fffffff", "0x80000000", "0x10000", "0xffff7fff"}) {
            check.errors(".word " + e, 5, 1);
            check.errors("lw r0, = " + e, 5, 1);
            check.errors(".word 1, " + e + ", 1, " + e, 5, 1, 5, 1);
        }
        check.words(".word 0xffff8000, 0xffffffff", 0x8000, 0xffff);
        // Set names have all their bits.
        check.words(".set a, 65536\n.set b, -32769\n.word a - 1, b + 1", 0xffff, 0x8000);
        check.errors(".set a, 65536\n.set b, -32769\n.word a, b", 5, 3, 5, 3);
    }

    /** (B, bz long: 0 to 65535). */
    private static void longBranchesFrom0(Check check) {
        check.words("b -31", 0x5020);
        check.errors("b -32\nb -32768\nb 0xffffffff - 1000", 5, 1, 5, 2, 5, 3);
        check.words("bz r1, -15", 0x7210);
        check.errors("bz r1, -16\nbz r1, -32768", 5, 1, 5, 2);
        check.errors(".space 40\nb -1\nbz r1, -1", 5, 2, 5, 3);
        at(check, 40, "b 0", 0x6000, 0);
        at(check, 40, "bz r1, 0", 0x8200, 0);
        at(check, 31, "b 0", 0x5020);
        at(check, 30, "b -1", 0x5020);
        check.errors(".space 31\nb -1", 5, 2);
        at(check, 15, "bz r1, 0", 0x7210);
        at(check, 14, "bz r1, -1", 0x7210);
        check.errors(".space 15\nbz r1, -1", 5, 2);
    }

    /** PLACES count words from 0. */
    private static void placesFrom0(Check check) {
        check.statements("a:\nnop\nli r1, 256\n.word 1, 2\n.space 0\n.space 3\n.pool\nb:",
                1, 0, 0, 0, 2, 0, 1, 0, 3, 1, 2, 1, 4, 3, 2, 0, 5, 5, 0, 0, 6, 5, 3, 0, 7, 8, 0, 0, 8, 8, 0, 0);
        // A . is the statement's place, whichever of its words is meant.
        check.words("nop\n.word ., ., .\nli r1, . + 256\nlw r1, = .", 0, 1, 1, 1, 0x2200, 260, 0x9200, 6);
    }

    /** Each lw wants a word .. in the next POOL behind it: .pool, or the text's end; in the order of the lws. */
    private static void literalsInTheNextPool(Check check) {
        check.words("lw r1, = 1\nlw r2, = 2\nlw r3, = 3", 0x9202, 0x9402, 0x9602, 1, 2, 3);
        check.words("lw r1, = 1\n.pool\nlw r2, = 2\n.pool\nlw r3, = 3", 0x9200, 1, 0x9400, 2, 0x9600, 3);
        check.words(".pool\nlw r1, = 1\nlw r2, = 1\n.pool\n.pool\n.word 9", 0x9201, 0x9401, 1, 1, 9);
        check.statements("lw r1, = 1\nlw r1, = 1\np: .pool\nlw r1, = 1\ne:",
                1, 0, 1, 0, 2, 1, 1, 0, 3, 2, 2, 0, 4, 4, 1, 0, 5, 5, 0, 0);
        check.same("the end's pool is no statement", check.assembled("lw r1, = 1").count(2), 1);
        check.same("but has its words", check.assembled("lw r1, = 1").count(1), 2);
        // Across calls, too.
        check.words(".macro m\nlw r&0, = &1\n.end\n.macro p\n.pool\n.end\nm 1, 5\nm 2, 6\np\nm 3, 7", 0x9201, 0x9401, 5, 6, 0x9600, 7);
    }

    /** (A pool without literals has no words). */
    private static void poolWithoutLiterals(Check check) {
        check.statements(".pool\n.pool\nnop\n.pool", 1, 0, 0, 0, 2, 0, 0, 0, 3, 0, 1, 0, 4, 1, 0, 0);
        check.words(".pool");
        check.words("nop", 0);
    }

    /** All li, b, bz are short at first; in a round places are counted, then all short ones that do not fit become long. */
    private static void shortAtFirst(Check check) {
        // The second one would not fit if the first one's growth counted at once; it does not fit a round later.
        rounds(check, "b 1000\nb e\n.space 31\ne:", 2, 1);
        rounds(check, "b e\nb 1000\n.space 29\ne:", 2, 1);
        rounds(check, "b e\nb 1000\n.space 30\ne:", 3, 2);
        rounds(check, "b e\nb 1000\n.space 31\ne:", 2, 2);
        rounds(check, "s: b 1000\n.space 30\nb s", 3, 2);
        rounds(check, "s: b 1000\n.space 29\nb s", 2, 1);
        // A long one itself lies between its own place and a target behind it, but fits no less by that.
        rounds(check, "b e\n.space 32\ne:", 2, 1);
        rounds(check, "li r1, e\n.space 254\ne:", 1, 0);
        rounds(check, "li r1, e\n.space 255\ne:", 2, 1);
    }

    /** A round in which none does is the last one. */
    private static void lastRound(Check check) {
        rounds(check, "", 1, 0);
        rounds(check, "nop", 1, 0);
        rounds(check, "li r1, 255\nb .\nbz r1, .", 1, 0);
        rounds(check, "li r1, 256", 2, 1);
        rounds(check, ".macro m\nli r1, 256\nli r1, 256\nli r1, 256\nli r1, 256\n.end\n" + "m\n".repeat(100), 2, 400);
    }

    private static void rounds(Check check, String text, int rounds, int longOnes) {
        AssembleLines x = check.assembled(text);
        check.same("rounds of " + Check.shown(text), x.count(7), rounds);
        check.same("long ones of " + Check.shown(text), x.count(9), longOnes);
    }

    /** Only short ones become long: none becomes short again. */
    private static void longStaysLong(Check check) {
        // In the first round the value is 256, in the last one 255.
        check.words("li r1, 257 + a - b\na: li r2, 300\nb:", 0x2200, 255, 0x2400, 300);
        check.words("li r1, 256 + a - b\na: li r2, 300\nb:", 0x12fe, 0x2400, 300);
    }
}
