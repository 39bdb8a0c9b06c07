/** Edges of promises 2 to 4: THE TEXT, its bytes, TOKENS and ITEMS, and where a FAULT is. */
public final class EdgesOfTextTest {
    private static final String ROW = "row 0 aaaaaaaa;";
    private static final String ZONE = "zone a 1 1 1;";
    private static final String[] ABOVE_NINETY_NINE = {
        "100", "101", "110", "255", "256", "257", "999", "1000", "32769", "65537", "2147483648", "4294967296",
        "4294967297", "4294967301", "18446744073709551616", "18446744073709551617", "9".repeat(300),
    };
    private static final String[] ZERO_AHEAD = {"00", "01", "05", "09", "010", "099", "000", "0000000001"};

    public static void main(String[] args) {
        lowestBytesOfV();
        howManyBytesACallTakes();
        textIsFull();
        fullTextIsRead();
        textIsCleared();
        bytesOfAnEarlierText();
        emptyText();
        items();
        wordsOfItems();
        zoneNumbers();
        rowNumbers();
        letters();
        signs();
        bytesBetweenTokens();
        bytesAboveSeventhBit();
        endsTooEarly();
        firstFaultCounts();
        toldAgain();
        Check.end();
    }

    private static String blanks(int n) {
        return " ".repeat(n);
    }

    private static Run dam(long want, String text) {
        return new Run().dam(want, text);
    }

    private static void fault(int place, String text) {
        dam(-10 - place, text);
    }

    private static void lowestBytesOfV() {
        Check.says("The lowest n (1 .. 8) bytes of v, the highest of them first, come to THE TEXT: how many it has.");
        String text = "row 5 abcdef..;;";
        for (int n = 1; n <= 8; n++) {
            Run run = new Run();
            for (int from = 0; from < 15; from += n) {
                int to = Math.min(15, from + n);
                long others = to - from == 8 ? 0 : -1L << 8 * (to - from);
                run.due(to, "type", others | Check.bytes(text, from, to), to - from);
            }
            run.due(6, "dam");
            for (int x = 0; x < 8; x++) run.due(x < 6 ? x : Run.NONE, "cell", x, 5, 0);
        }
        // v below 0: its bytes are 255, or 128 and 0, and no blanks.
        new Run().due(8, "type", -1, 8).due(-10, "dam").due(8, "count", 7);
        new Run().due(8, "type", Long.MIN_VALUE, 8).due(-10, "dam");
        new Run().due(1, "type", Long.MIN_VALUE | 32, 1).due(0, "dam");
        new Run().due(7, "type", 0xFF20202020202020L, 7).due(0, "dam");
        new Run().due(8, "type", 0x2020202020202000L, 8).due(-17, "dam");
    }

    private static void howManyBytesACallTakes() {
        Check.says("The lowest n (1 .. 8) bytes of v");
        Run run = new Run();
        run.due(Run.BAD, "type", 32, 0).due(Run.BAD, "type", 32, 9).due(Run.BAD, "type", 32, -1).due(0, "count", 7);
        run.due(1, "type", 32, 1).due(9, "type", 0x2020202020202020L, 8);
        run.due(Run.BAD, "type", 32, 0).due(Run.BAD, "type", 32, 9).due(9, "count", 7);
        run.due(Run.BAD, "type", 32, 257).due(Run.BAD, "type", 32, Integer.MAX_VALUE).due(Run.BAD, "type", 32, Integer.MIN_VALUE);
        run.due(9, "count", 7);
    }

    private static void textIsFull() {
        Check.says("THE DAM is a text (400 bytes at most)");
        for (int n = 1; n <= 8; n++) {
            long v = Check.bytes(blanks(n), 0, n);
            new Run().type(blanks(400 - n)).due(400, "type", v, n).due(Run.FULL, "type", v, n).due(400, "count", 7).due(0, "dam");
            Run run = new Run().type(blanks(401 - n)).due(401 - n, "count", 7);
            run.due(Run.FULL, "type", v, n).due(401 - n, "count", 7);
            if (n > 1) run.due(400, "type", v, n - 1);
            run.due(Run.FULL, "type", 32, 1).due(400, "count", 7).due(0, "dam").due(0, "count", 7);
        }
        // Of a call that is refused not even the bytes come that there is room for.
        Run run = new Run().type(blanks(385) + "row 0 aaaaaaaa");
        run.due(399, "count", 7).due(Run.FULL, "type", Check.bytes("!;", 0, 2), 2).due(400, "type", ';', 1).due(8, "dam");
        Check.says("Refused, and nothing changes, the first of these: BAD");
        run = new Run().type(blanks(400));
        run.due(Run.BAD, "type", 32, 0).due(Run.BAD, "type", 32, 9).due(Run.FULL, "type", 32, 8).due(Run.FULL, "type", 32, 1);
    }

    private static void fullTextIsRead() {
        Check.says("THE DAM is a text (400 bytes at most)");
        dam(7, blanks(385) + "row 5 abcdef.a;").due(0, "cell", 7, 5, 0).due(0, "count", 7);
        dam(8, ROW + blanks(385));
        dam(-409, blanks(399) + "!").due(400, "count", 7);
        Check.says("the text's length, if it ends too early");
        dam(-410, blanks(386) + "row 5 abcdef.a").due(400, "count", 7).due(0, "count", 0);
        dam(-410, "zone" + blanks(396));
        for (String last : new String[] {"zone", "row", "row 5", "zone a 1 12", "zone a", "zone a 1 1 9"}) {
            dam(-410, blanks(400 - last.length()) + last);
        }
    }

    private static void textIsCleared() {
        Check.says("THE TEXT is empty: how many bytes it had.");
        Run run = new Run().due(0, "clear").due(1, "type", 'x', 1).due(1, "clear").due(0, "clear").due(0, "count", 7);
        run.type(blanks(400)).due(400, "clear").due(0, "count", 7).due(0, "dam");
        run.type(blanks(400)).due(400, "count", 7).due(0, "dam").due(0, "clear");
        run.dam(-24, "row 1 aaaaaaaa").due(14, "clear").due(0, "clear").due(0, "dam");
    }

    private static void bytesOfAnEarlierText() {
        Check.says("THE TEXT is empty");
        // A shorter text ends where it ends, whatever bytes stood behind that place.
        String[][] texts = {
            {"row 00000000;", "row 0"}, {"row 0 aaaaaaaaaaaa;", "row 0 aaaaaaaa"}, {"row 0 aaaaaaaa;", "row 0 aaaaaaaa"}, {"zone a 1 1 1;", "zone a 1 1 1"},
            {"zone a 1 1 11;", "zone a 1 1 1"}, {"zonezone", "zone"}, {"rowrow", "row"}, {"zone aa", "zone a"},
        };
        for (String[] pair : texts) {
            Run run = new Run().type(pair[0]).due(pair[0].length(), "clear");
            run.dam(-10 - pair[1].length(), pair[1]);
        }
        // So behind dam(), too.
        Run.ofDam("zone a 1 1 1;row 0 aaaaaaaa;").dam(-22, "zone a 1 1 1").due(8, "count", 0);
    }

    private static void emptyText() {
        Check.says("THE TEXT becomes THE DAM, and is empty then: how many CELLS are EARTH.");
        new Run().due(0, "dam").due(0, "dam");
        dam(0, blanks(1));
        Run run = Run.ofDam(ZONE + ROW).due(0, "count", 7).due(8, "count", 0);
        run.due(0, "dam").due(0, "count", 0).due(Run.NONE, "cell", 0, 0, 0).due(10, "zone", 0, 0, 10);
        Check.says("-10 less FAULT: nothing changes.");
        run = Run.ofDam(ROW).dam(-24, "row 1 aaaaaaaa").due(14, "count", 7).due(8, "count", 0).due(Run.NONE, "cell", 0, 1, 0);
        // The text is there still, and more can come to it.
        run.due(15, "type", ';', 1).due(8, "dam").due(0, "cell", 0, 1, 0).due(Run.NONE, "cell", 0, 0, 0).due(0, "count", 7);
    }

    private static void items() {
        Check.says("ITEMS, 20 at most");
        dam(8, ROW);
        dam(8, ROW.repeat(19));
        dam(8, ROW.repeat(20));
        dam(0, ZONE.repeat(20));
        dam(8, ZONE.repeat(19) + ROW);
        dam(8, ROW + ZONE.repeat(19) + blanks(100));
        Check.says("a 21st ITEM's first");
        fault(300, ROW.repeat(21));
        fault(260, ZONE.repeat(21));
        fault(280, (ROW + ZONE).repeat(10) + ROW);
        fault(280, (ROW + ZONE).repeat(10) + ZONE);
        fault(303, ROW.repeat(20) + "   row");
        for (String first : new String[] {"zone", "row", "r", "z", ".", "0", "7", "100", "00", ";", "!", "a" + (char) 200}) {
            fault(261, ZONE.repeat(20) + " " + first);
        }
        // The 20th has its own faults.
        fault(247 + 4, ZONE.repeat(19) + "row 6 aaaaaaaa;" + ZONE);
        fault(261, ZONE.repeat(19) + "row 5 aaaaaaaa");
    }

    private static void wordsOfItems() {
        Check.says("FAULT: the place of the first byte of the first TOKEN that can't stand there");
        for (String item : new String[] {ZONE, ROW}) {
            int end = item.indexOf(' ');
            for (int at = 0; at < end; at++) {
                for (char other : new char[] {(char) (item.charAt(at) - 1), (char) (item.charAt(at) + 1), '.', 'A'}) {
                    fault(2, "  " + item.substring(0, at) + other + item.substring(at + 1));
                }
                fault(2, "  " + item.substring(0, at) + item.substring(at + 1));
            }
            fault(0, item.substring(0, end) + "s" + item.substring(end));
            fault(0, "a" + item);
            fault(0, item.substring(0, end) + item);
        }
    }

    private static void zoneNumbers() {
        Check.says("\"zone\" LETTER LEAD HOLD GRAIN ;");
        for (int trait = 0; trait < 3; trait++) {
            int place = "zone f ".length() + 2 * trait;
            String ahead = "zone f " + "2 ".repeat(trait);
            String behind = " 2".repeat(2 - trait) + ";";
            for (int v = 1; v <= 99; v++) dam(0, ahead + v + behind).due(v, "zone", 5, trait, 3);
            Check.says("a NUMBER beyond 1 .. 99");
            fault(place, ahead + "0" + behind);
            Check.says("a NUMBER above 99 or with a 0 ahead of others, that TOKEN's");
            for (String number : ABOVE_NINETY_NINE) fault(place, ahead + number + behind);
            for (String number : ZERO_AHEAD) fault(place, ahead + number + behind);
            Check.says("the place of the first byte of the first TOKEN that can't stand there");
            for (String other : new String[] {";", "a", ".", "abc", "-1", "+1", "1.", "1a"}) {
                boolean numberAhead = other.charAt(0) == '1';
                fault(numberAhead ? place + 1 : place, ahead + other + behind);
            }
        }
        Check.says("\"zone\" LETTER LEAD HOLD GRAIN ;");
        fault(13, "zone f 2 2 2 2;");
        fault(13, "zone f 2 2 2 row 0 aaaaaaaa;");
        fault(11, "zone f 2 2 ;");
    }

    private static void rowNumbers() {
        Check.says("\"zone\" LETTER LEAD HOLD GRAIN ; or \"row\" Y SIGNS ;");
        for (int y = 0; y < 6; y++) {
            Run run = dam(8, "row " + y + " aaaaaaaa;");
            for (int other = 0; other < 6; other++) {
                run.due(other == y ? 0 : Run.NONE, "cell", 0, other, 0).due(other == y ? 0 : Run.NONE, "cell", 7, other, 0);
            }
        }
        Check.says("for Y beyond 0 .. 5, too");
        for (int y = 6; y <= 99; y++) fault(4, "row " + y + " aaaaaaaa;");
        fault(4, "row -1 aaaaaaaa;");
        Check.says("a NUMBER above 99 or with a 0 ahead of others, that TOKEN's");
        for (String number : ABOVE_NINETY_NINE) fault(4, "row " + number + " aaaaaaaa;");
        for (String number : ZERO_AHEAD) fault(4, "row " + number + " aaaaaaaa;");
        Check.says("the place of the first byte of the first TOKEN that can't stand there");
        fault(4, "row ; aaaaaaaa;");
        fault(4, "row a aaaaaaaa;");
        fault(4, "row . aaaaaaaa;");
        fault(6, "row 0 0 aaaaaaaa;");
        fault(5, "row 0-aaaaaaaa;");
    }

    private static void letters() {
        Check.says("of a ZONE a .. f (0 .. 5)");
        for (int sign = 0; sign < 256; sign++) {
            String text = "zone " + (char) sign + " 7 8 9;";
            if (sign == ' ') {
                fault(7, text);
            } else if (sign < 'a' || sign > 'f') {
                fault(5, text);
            } else {
                int z = sign - 'a';
                Run run = dam(0, text).due(7, "zone", z, 0, 1).due(8, "zone", z, 1, 1).due(9, "zone", z, 2, 1);
                for (int other = 0; other < 6; other++) if (other != z) run.due(10, "zone", other, 0, 10);
            }
        }
        for (String word : new String[] {"aa", "a.", ".a", "ab", "zone"}) fault(5, "zone " + word + " 7 8 9;");
    }

    private static void signs() {
        Check.says("with SIGNS eight of a .. f and . (AIR), for x 0 .. 7");
        for (int length = 0; length <= 20; length++) {
            String text = "row 0 " + "f".repeat(length) + ";";
            dam(length == 8 ? 8 : -16, text);
        }
        fault(6, "row 0 " + "a".repeat(264) + ";");
        for (int x = 0; x < 8; x++) {
            for (int sign = 0; sign < 256; sign++) {
                String text = "row 3 " + "a".repeat(x) + (char) sign + "a".repeat(7 - x) + ";";
                if (sign == '.') {
                    dam(7, text).due(Run.NONE, "cell", x, 3, 0);
                } else if (sign >= 'a' && sign <= 'f') {
                    dam(8, text).due(sign - 'a', "cell", x, 3, 0);
                } else {
                    // A blank ahead of all signs leaves a word of seven; any other byte ends or spoils the first word.
                    fault(sign == ' ' && x == 0 ? 7 : 6, text);
                }
            }
        }
        dam(0, "row 3 ........;").due(0, "count", 0);
        fault(6, "row 3 aaaa aaaa;");
    }

    private static boolean inWord(int sign) {
        return sign >= 'a' && sign <= 'z' || sign == '.';
    }

    private static boolean isDigit(int sign) {
        return sign >= '0' && sign <= '9';
    }

    private static void bytesBetweenTokens() {
        for (int sign = 0; sign < 256; sign++) {
            char b = (char) sign;
            boolean blank = sign == 32;
            Check.says("read byte by byte, blanks (32) between TOKENS");
            dam(blank ? 8 : -10, b + ROW);
            dam(blank ? 8 : -10 - 15, ROW + b);
            dam(blank ? 8 : inWord(sign) ? -10 : -10 - 3, "row" + b + "0 aaaaaaaa;");
            Check.says("TOKENS are words of a .. z and . , NUMBERS, and ; .");
            dam(blank ? 0 : isDigit(sign) ? -10 - 7 : -10 - 8, "zone a 1" + b + "1 1;");
            // Behind SIGNS: more of the word, a ; that ends the ITEM ahead of another, or a byte that can't stand there.
            dam(blank ? 8 : inWord(sign) ? -10 - 6 : sign == ';' ? -10 - 15 : -10 - 14, "row 0 aaaaaaaa" + b + ";");
        }
        Check.says("read byte by byte, blanks (32) between TOKENS");
        dam(8, "   row   0   aaaaaaaa   ;   ");
        dam(8, "row0aaaaaaaa;row 1........;");
        dam(0, "zone a1 1 1;");
        fault(0, "zonea 1 1 1;");
        fault(0, "ro w 0 aaaaaaaa;");
        fault(7, "zone a 111;");
    }

    private static void bytesAboveSeventhBit() {
        Check.says("of a byte that begins none");
        String text = ZONE + ROW;
        int[] due = {0, 0, 0, 0, 4, 5, 6, 7, 8, 9, 10, 11, 12, 13, 13, 13, 16, 17, 18, 19, 19, 19, 19, 19, 19, 19, 19, 27};
        for (int at = 0; at < text.length(); at++) {
            String spoilt = text.substring(0, at) + (char) (text.charAt(at) + 128) + text.substring(at + 1);
            fault(due[at], spoilt);
        }
    }

    private static void endsTooEarly() {
        Check.says("the text's length, if it ends too early");
        String text = "zone a 12 3 45;row 0 aaaaaaaa;";
        int[] due = {
            0, -10, -10, -10, -14, -15, -16, -17, -18, -19, -20, -21, -22, -23, -24, 0,
            -25, -25, -28, -29, -30, -31, -31, -31, -31, -31, -31, -31, -31, -39, 8,
        };
        for (int length = 0; length <= text.length(); length++) dam(due[length], text.substring(0, length));
        // Blanks at the end belong to the text.
        fault(9, "zone     ");
        fault(20, "zone a 12 3 45      ");
        fault(16, "row 0 aaaaaaaa  ");
    }

    private static void firstFaultCounts() {
        Check.says("the first TOKEN that can't stand there");
        fault(4, "row 6 aaaaaaa;");
        fault(5, "zone g 0 100 00;");
        fault(7, "zone a 0 100 00;");
        fault(9, "zone a 1 100 00;");
        fault(11, "zone a 1 1 00 !");
        fault(0, "; !");
        fault(6, "row 1 gggggggg");
        fault(15, ROW + ";" + ROW.repeat(20));
    }

    private static void toldAgain() {
        Check.says("(A ZONE or a row told again: the last counts.)");
        Run run = dam(1, "row 2 bbbbbbbb;zone c 1 2 3;row 2 .......c;zone c 99 98 97;");
        for (int x = 0; x < 7; x++) run.due(Run.NONE, "cell", x, 2, 0);
        run.due(2, "cell", 7, 2, 0).due(99, "zone", 2, 0, 1).due(98, "zone", 2, 1, 1).due(97, "zone", 2, 2, 1);
        run = dam(0, "row 2 bbbbbbbb;".repeat(19) + "row 2 ........;");
        run.due(Run.NONE, "cell", 0, 2, 0);
        Check.says("(Read anew: all CELLS are AIR, all ZONES as at first, ahead of it; HEADS are 0; none is GONE.)");
        run = Run.ofDam("zone a 99 1 3;zone b 4 5 6;row 1 aaaaaaaa;").does("lake", 6).does("sweep", 100).due(1, "day");
        // What was told as if leaves nothing behind, either.
        run.does("highest").does("breach");
        run.dam(8, "row 1 abababab;").due(0, "count", 1).due(0, "count", 2).due(8, "count", 0);
        for (int x = 0; x < 8; x++) run.due(x % 2, "cell", x, 1, 0).due(0, "cell", x, 1, 1).due(0, "cell", x, 1, 3);
        for (int z = 0; z < 6; z++) for (int what = 0; what < 3; what++) run.due(10, "zone", z, what, 10);
        run.due(6, "count", 6).due(0, "dry");
        // THE LAKE is not among it.
        for (int lake = 0; lake <= 6; lake++) new Run().does("lake", lake).dam(8, ROW).due(lake, "count", 6).does("highest").dam(8, ROW).due(lake, "count", 6);
    }
}
