/** What every test of the project uses: compare answers, tell the wrong ones, end with exit code 1 if there was one. */
final class Check {
    private static int asked = 0;
    private static int wrong = 0;

    private Check() {
    }

    static void due(String call, long got, long want) {
        asked++;
        if (got == want) return;
        wrong++;
        System.out.println(call + " answered " + got + ", due is " + want);
    }

    static void end() {
        System.out.println(asked + " answers, " + wrong + " of them wrong");
        if (wrong != 0) System.exit(1);
    }

    /** Types a text of any length, eight bytes a call; the last answer. */
    static int type(EarthBanks banks, String text) {
        int answer = banks.count(7);
        for (int from = 0; from < text.length(); from += 8) {
            int to = Math.min(text.length(), from + 8);
            long bytes = 0;
            for (int i = from; i < to; i++) bytes = bytes << 8 | text.charAt(i) & 255;
            answer = banks.type(bytes, to - from);
        }
        return answer;
    }

    static int dam(EarthBanks banks, String text) {
        type(banks, text);
        return banks.dam();
    }

    static EarthBanks damOf(String text) {
        EarthBanks banks = new EarthBanks();
        int earth = dam(banks, text);
        if (earth < 0) due("dam() of \"" + text + "\"", earth, 0);
        return banks;
    }
}
